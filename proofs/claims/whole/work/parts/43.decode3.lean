theorem dX11_kindOf_77 : decode cX11_kindOf 77 = .ok (.iconst 3, 1) := by decide +kernel
theorem dX11_kindOf_78 : decode cX11_kindOf 78 = .ok (.goto 5, 3) := by decide +kernel
theorem dX11_kindOf_81 : decode cX11_kindOf 81 = .ok (.bipush 8, 2) := by decide +kernel
theorem dX11_kindOf_83 : decode cX11_kindOf 83 = .ok (.ireturn, 1) := by decide +kernel
theorem dX11_kindOf_84 : decode cX11_kindOf 84 = .ok (.iload_n 1, 1) := by decide +kernel
theorem dX11_kindOf_85 : decode cX11_kindOf 85 = .ok (.ifCond .ne 7, 3) := by decide +kernel
theorem dX11_kindOf_88 : decode cX11_kindOf 88 = .ok (.iconst 0, 1) := by decide +kernel
theorem dX11_kindOf_89 : decode cX11_kindOf 89 = .ok (.goto 14, 3) := by decide +kernel
theorem dX11_kindOf_92 : decode cX11_kindOf 92 = .ok (.iload_n 1, 1) := by decide +kernel
theorem dX11_kindOf_93 : decode cX11_kindOf 93 = .ok (.iconst 1, 1) := by decide +kernel
theorem dX11_kindOf_94 : decode cX11_kindOf 94 = .ok (.if_icmp .ne 7, 3) := by decide +kernel
theorem dX11_kindOf_97 : decode cX11_kindOf 97 = .ok (.iconst 4, 1) := by decide +kernel
theorem dX11_kindOf_98 : decode cX11_kindOf 98 = .ok (.goto 5, 3) := by decide +kernel
theorem dX11_kindOf_101 : decode cX11_kindOf 101 = .ok (.bipush 9, 2) := by decide +kernel
theorem dX11_kindOf_103 : decode cX11_kindOf 103 = .ok (.ireturn, 1) := by decide +kernel
theorem dX11_kindOf_104 : decode cX11_kindOf 104 = .ok (.iload_n 1, 1) := by decide +kernel
theorem dX11_kindOf_105 : decode cX11_kindOf 105 = .ok (.ifCond .ne 7, 3) := by decide +kernel
theorem dX11_kindOf_108 : decode cX11_kindOf 108 = .ok (.iconst 1, 1) := by decide +kernel
theorem dX11_kindOf_109 : decode cX11_kindOf 109 = .ok (.goto 14, 3) := by decide +kernel
theorem dX11_kindOf_112 : decode cX11_kindOf 112 = .ok (.iload_n 1, 1) := by decide +kernel
theorem dX11_kindOf_113 : decode cX11_kindOf 113 = .ok (.iconst 1, 1) := by decide +kernel
theorem dX11_kindOf_114 : decode cX11_kindOf 114 = .ok (.if_icmp .ne 7, 3) := by decide +kernel
theorem dX11_kindOf_117 : decode cX11_kindOf 117 = .ok (.iconst 5, 1) := by decide +kernel
theorem dX11_kindOf_118 : decode cX11_kindOf 118 = .ok (.goto 5, 3) := by decide +kernel
theorem dX11_kindOf_121 : decode cX11_kindOf 121 = .ok (.bipush 8, 2) := by decide +kernel
theorem dX11_kindOf_123 : decode cX11_kindOf 123 = .ok (.ireturn, 1) := by decide +kernel
theorem dX11_kindOf_124 : decode cX11_kindOf 124 = .ok (.iload_n 1, 1) := by decide +kernel
theorem dX11_kindOf_125 : decode cX11_kindOf 125 = .ok (.ifCond .ne 7, 3) := by decide +kernel
theorem dX11_kindOf_128 : decode cX11_kindOf 128 = .ok (.iconst 0, 1) := by decide +kernel
theorem dX11_kindOf_129 : decode cX11_kindOf 129 = .ok (.goto 15, 3) := by decide +kernel
theorem dX11_kindOf_132 : decode cX11_kindOf 132 = .ok (.iload_n 1, 1) := by decide +kernel
theorem dX11_kindOf_133 : decode cX11_kindOf 133 = .ok (.iconst 1, 1) := by decide +kernel
theorem dX11_kindOf_134 : decode cX11_kindOf 134 = .ok (.if_icmp .ne 8, 3) := by decide +kernel
theorem dX11_kindOf_137 : decode cX11_kindOf 137 = .ok (.bipush 6, 2) := by decide +kernel
theorem dX11_kindOf_139 : decode cX11_kindOf 139 = .ok (.goto 5, 3) := by decide +kernel
theorem dX11_kindOf_142 : decode cX11_kindOf 142 = .ok (.bipush 8, 2) := by decide +kernel
theorem dX11_kindOf_144 : decode cX11_kindOf 144 = .ok (.ireturn, 1) := by decide +kernel
theorem dX11_kindOf_145 : decode cX11_kindOf 145 = .ok (.iload_n 1, 1) := by decide +kernel
theorem dX11_kindOf_146 : decode cX11_kindOf 146 = .ok (.ifCond .ne 7, 3) := by decide +kernel
theorem dX11_kindOf_149 : decode cX11_kindOf 149 = .ok (.iconst 0, 1) := by decide +kernel
theorem dX11_kindOf_150 : decode cX11_kindOf 150 = .ok (.goto 15, 3) := by decide +kernel
theorem dX11_kindOf_153 : decode cX11_kindOf 153 = .ok (.iload_n 1, 1) := by decide +kernel
theorem dX11_kindOf_154 : decode cX11_kindOf 154 = .ok (.iconst 1, 1) := by decide +kernel
theorem dX11_kindOf_155 : decode cX11_kindOf 155 = .ok (.if_icmp .ne 8, 3) := by decide +kernel
theorem dX11_kindOf_158 : decode cX11_kindOf 158 = .ok (.bipush 6, 2) := by decide +kernel
theorem dX11_kindOf_160 : decode cX11_kindOf 160 = .ok (.goto 5, 3) := by decide +kernel
theorem dX11_kindOf_163 : decode cX11_kindOf 163 = .ok (.bipush 10, 2) := by decide +kernel
theorem dX11_kindOf_165 : decode cX11_kindOf 165 = .ok (.ireturn, 1) := by decide +kernel
theorem dX11_kindOf_166 : decode cX11_kindOf 166 = .ok (.iload_n 1, 1) := by decide +kernel
theorem dX11_kindOf_167 : decode cX11_kindOf 167 = .ok (.ifCond .ne 7, 3) := by decide +kernel
theorem dX11_kindOf_170 : decode cX11_kindOf 170 = .ok (.iconst 2, 1) := by decide +kernel
theorem dX11_kindOf_171 : decode cX11_kindOf 171 = .ok (.goto 15, 3) := by decide +kernel
theorem dX11_kindOf_174 : decode cX11_kindOf 174 = .ok (.iload_n 1, 1) := by decide +kernel
theorem dX11_kindOf_175 : decode cX11_kindOf 175 = .ok (.iconst 1, 1) := by decide +kernel
theorem dX11_kindOf_176 : decode cX11_kindOf 176 = .ok (.if_icmp .ne 8, 3) := by decide +kernel
theorem dX11_kindOf_179 : decode cX11_kindOf 179 = .ok (.bipush 7, 2) := by decide +kernel
theorem dX11_kindOf_181 : decode cX11_kindOf 181 = .ok (.goto 5, 3) := by decide +kernel
theorem dX11_kindOf_184 : decode cX11_kindOf 184 = .ok (.bipush 11, 2) := by decide +kernel
theorem dX11_kindOf_186 : decode cX11_kindOf 186 = .ok (.ireturn, 1) := by decide +kernel
theorem dX11_kindOf_187 : decode cX11_kindOf 187 = .ok (.iload_n 1, 1) := by decide +kernel
theorem dX11_kindOf_188 : decode cX11_kindOf 188 = .ok (.ifCond .ne 7, 3) := by decide +kernel
theorem dX11_kindOf_191 : decode cX11_kindOf 191 = .ok (.iconst 0, 1) := by decide +kernel
theorem dX11_kindOf_192 : decode cX11_kindOf 192 = .ok (.goto 23, 3) := by decide +kernel
theorem dX11_kindOf_195 : decode cX11_kindOf 195 = .ok (.iload_n 1, 1) := by decide +kernel
theorem dX11_kindOf_196 : decode cX11_kindOf 196 = .ok (.iconst 1, 1) := by decide +kernel
theorem dX11_kindOf_197 : decode cX11_kindOf 197 = .ok (.if_icmp .ne 7, 3) := by decide +kernel
theorem dX11_kindOf_200 : decode cX11_kindOf 200 = .ok (.iconst 2, 1) := by decide +kernel
theorem dX11_kindOf_201 : decode cX11_kindOf 201 = .ok (.goto 14, 3) := by decide +kernel
theorem dX11_kindOf_204 : decode cX11_kindOf 204 = .ok (.iload_n 1, 1) := by decide +kernel
theorem dX11_kindOf_205 : decode cX11_kindOf 205 = .ok (.iconst 2, 1) := by decide +kernel
theorem dX11_kindOf_206 : decode cX11_kindOf 206 = .ok (.if_icmp .ne 7, 3) := by decide +kernel
theorem dX11_kindOf_209 : decode cX11_kindOf 209 = .ok (.iconst 4, 1) := by decide +kernel
theorem dX11_kindOf_210 : decode cX11_kindOf 210 = .ok (.goto 5, 3) := by decide +kernel
theorem dX11_kindOf_213 : decode cX11_kindOf 213 = .ok (.bipush 9, 2) := by decide +kernel
theorem dX11_kindOf_215 : decode cX11_kindOf 215 = .ok (.ireturn, 1) := by decide +kernel
theorem dX11_sentencesOf_0 : decode cX11_sentencesOf 0 = .ok (.iload_n 0, 1) := by decide +kernel
theorem dX11_sentencesOf_1 : decode cX11_sentencesOf 1 = .ok (.bipush 7, 2) := by decide +kernel
theorem dX11_sentencesOf_3 : decode cX11_sentencesOf 3 = .ok (.if_icmp .ne 7, 3) := by decide +kernel
theorem dX11_sentencesOf_6 : decode cX11_sentencesOf 6 = .ok (.iconst 3, 1) := by decide +kernel
theorem dX11_sentencesOf_7 : decode cX11_sentencesOf 7 = .ok (.goto 4, 3) := by decide +kernel
theorem dX11_sentencesOf_10 : decode cX11_sentencesOf 10 = .ok (.iconst 2, 1) := by decide +kernel
theorem dX11_sentencesOf_11 : decode cX11_sentencesOf 11 = .ok (.ireturn, 1) := by decide +kernel
theorem dX11_numberOf_0 : decode cX11_numberOf 0 = .ok (.iload_n 0, 1) := by decide +kernel
theorem dX11_numberOf_1 : decode cX11_numberOf 1 = .ok (.bipush 6, 2) := by decide +kernel
theorem dX11_numberOf_3 : decode cX11_numberOf 3 = .ok (.if_icmp .ne 9, 3) := by decide +kernel
theorem dX11_numberOf_6 : decode cX11_numberOf 6 = .ok (.iconst 1, 1) := by decide +kernel
theorem dX11_numberOf_7 : decode cX11_numberOf 7 = .ok (.iload_n 1, 1) := by decide +kernel
theorem dX11_numberOf_8 : decode cX11_numberOf 8 = .ok (.isub, 1) := by decide +kernel
theorem dX11_numberOf_9 : decode cX11_numberOf 9 = .ok (.goto 4, 3) := by decide +kernel
theorem dX11_numberOf_12 : decode cX11_numberOf 12 = .ok (.iload_n 1, 1) := by decide +kernel
theorem dX11_numberOf_13 : decode cX11_numberOf 13 = .ok (.ireturn, 1) := by decide +kernel
theorem dX11_write_0 : decode cX11_write 0 = .ok (.aload_n 0, 1) := by decide +kernel
theorem dX11_write_1 : decode cX11_write 1 = .ok (.invokevirtual 96, 3) := by decide +kernel
theorem dX11_write_4 : decode cX11_write 4 = .ok (.ifCond .lt 47, 3) := by decide +kernel
theorem dX11_write_7 : decode cX11_write 7 = .ok (.iload_n 2, 1) := by decide +kernel
theorem dX11_write_8 : decode cX11_write 8 = .ok (.ifCond .eq 13, 3) := by decide +kernel
theorem dX11_write_11 : decode cX11_write 11 = .ok (.aload_n 0, 1) := by decide +kernel
theorem dX11_write_12 : decode cX11_write 12 = .ok (.invokevirtual 96, 3) := by decide +kernel
theorem dX11_write_15 : decode cX11_write 15 = .ok (.invokestatic 179, 3) := by decide +kernel
theorem dX11_write_18 : decode cX11_write 18 = .ok (.ifCond .eq 33, 3) := by decide +kernel
theorem dX11_write_21 : decode cX11_write 21 = .ok (.aload_n 0, 1) := by decide +kernel
theorem dX11_write_22 : decode cX11_write 22 = .ok (.invokevirtual 120, 3) := by decide +kernel
theorem dX11_write_25 : decode cX11_write 25 = .ok (.ifCond .eq 18, 3) := by decide +kernel
theorem dX11_write_28 : decode cX11_write 28 = .ok (.iload_n 3, 1) := by decide +kernel
theorem dX11_write_29 : decode cX11_write 29 = .ok (.iconst 0, 1) := by decide +kernel
theorem dX11_write_30 : decode cX11_write 30 = .ok (.aload_n 0, 1) := by decide +kernel
theorem dX11_write_31 : decode cX11_write 31 = .ok (.invokevirtual 96, 3) := by decide +kernel
theorem dX11_write_34 : decode cX11_write 34 = .ok (.invokestatic 182, 3) := by decide +kernel
theorem dX11_write_37 : decode cX11_write 37 = .ok (.invokestatic 67, 3) := by decide +kernel
theorem dX11_write_40 : decode cX11_write 40 = .ok (.ifCond .eq 11, 3) := by decide +kernel
theorem dX11_write_43 : decode cX11_write 43 = .ok (.aload_n 0, 1) := by decide +kernel
theorem dX11_write_44 : decode cX11_write 44 = .ok (.iload_n 1, 1) := by decide +kernel
theorem dX11_write_45 : decode cX11_write 45 = .ok (.invokevirtual 146, 3) := by decide +kernel
theorem dX11_write_48 : decode cX11_write 48 = .ok (.ifCond .ne 5, 3) := by decide +kernel
theorem dX11_write_51 : decode cX11_write 51 = .ok (.iconst (-1), 1) := by decide +kernel
theorem dX11_write_52 : decode cX11_write 52 = .ok (.ireturn, 1) := by decide +kernel
theorem dX11_write_53 : decode cX11_write 53 = .ok (.aload_n 0, 1) := by decide +kernel
theorem dX11_write_54 : decode cX11_write 54 = .ok (.getfield 7, 3) := by decide +kernel
theorem dX11_write_57 : decode cX11_write 57 = .ok (.bipush 10, 2) := by decide +kernel
theorem dX11_write_59 : decode cX11_write 59 = .ok (.iconst 0, 1) := by decide +kernel
theorem dX11_write_60 : decode cX11_write 60 = .ok (.iastore, 1) := by decide +kernel
theorem dX11_write_61 : decode cX11_write 61 = .ok (.aload_n 0, 1) := by decide +kernel
theorem dX11_write_62 : decode cX11_write 62 = .ok (.invokevirtual 96, 3) := by decide +kernel
theorem dX11_write_65 : decode cX11_write 65 = .ok (.istore 4, 2) := by decide +kernel
theorem dX11_write_67 : decode cX11_write 67 = .ok (.iconst 0, 1) := by decide +kernel
theorem dX11_write_68 : decode cX11_write 68 = .ok (.istore 5, 2) := by decide +kernel
theorem dX11_write_70 : decode cX11_write 70 = .ok (.iload 5, 2) := by decide +kernel
theorem dX11_write_72 : decode cX11_write 72 = .ok (.iload 4, 2) := by decide +kernel
theorem dX11_write_74 : decode cX11_write 74 = .ok (.invokestatic 182, 3) := by decide +kernel
theorem dX11_write_77 : decode cX11_write 77 = .ok (.if_icmp .gt 185, 3) := by decide +kernel
theorem dX11_write_80 : decode cX11_write 80 = .ok (.aload_n 0, 1) := by decide +kernel
theorem dX11_write_81 : decode cX11_write 81 = .ok (.invokevirtual 120, 3) := by decide +kernel
theorem dX11_write_84 : decode cX11_write 84 = .ok (.ifCond .eq 33, 3) := by decide +kernel
theorem dX11_write_87 : decode cX11_write 87 = .ok (.iload 5, 2) := by decide +kernel
theorem dX11_write_89 : decode cX11_write 89 = .ok (.iload_n 3, 1) := by decide +kernel
theorem dX11_write_90 : decode cX11_write 90 = .ok (.if_icmp .ne 27, 3) := by decide +kernel
theorem dX11_write_93 : decode cX11_write 93 = .ok (.aload_n 0, 1) := by decide +kernel
theorem dX11_write_94 : decode cX11_write 94 = .ok (.iconst 0, 1) := by decide +kernel
theorem dX11_write_95 : decode cX11_write 95 = .ok (.aload_n 0, 1) := by decide +kernel
theorem dX11_write_96 : decode cX11_write 96 = .ok (.getfield 7, 3) := by decide +kernel
theorem dX11_write_99 : decode cX11_write 99 = .ok (.bipush 6, 2) := by decide +kernel
theorem dX11_write_101 : decode cX11_write 101 = .ok (.iaload, 1) := by decide +kernel
theorem dX11_write_102 : decode cX11_write 102 = .ok (.iconst (-1), 1) := by decide +kernel
theorem dX11_write_103 : decode cX11_write 103 = .ok (.aload_n 0, 1) := by decide +kernel
theorem dX11_write_104 : decode cX11_write 104 = .ok (.getfield 7, 3) := by decide +kernel
theorem dX11_write_107 : decode cX11_write 107 = .ok (.bipush 7, 2) := by decide +kernel
theorem dX11_write_109 : decode cX11_write 109 = .ok (.iaload, 1) := by decide +kernel
theorem dX11_write_110 : decode cX11_write 110 = .ok (.aload_n 0, 1) := by decide +kernel
theorem dX11_write_111 : decode cX11_write 111 = .ok (.getfield 114, 3) := by decide +kernel
theorem dX11_write_114 : decode cX11_write 114 = .ok (.invokevirtual 185, 3) := by decide +kernel
theorem dX11_write_117 : decode cX11_write 117 = .ok (.iload 5, 2) := by decide +kernel
theorem dX11_write_119 : decode cX11_write 119 = .ok (.iload 4, 2) := by decide +kernel
theorem dX11_write_121 : decode cX11_write 121 = .ok (.invokestatic 182, 3) := by decide +kernel
theorem dX11_write_124 : decode cX11_write 124 = .ok (.if_icmp .ne 38, 3) := by decide +kernel
theorem dX11_write_127 : decode cX11_write 127 = .ok (.aload_n 0, 1) := by decide +kernel
theorem dX11_write_128 : decode cX11_write 128 = .ok (.iload 4, 2) := by decide +kernel
theorem dX11_write_130 : decode cX11_write 130 = .ok (.iload 5, 2) := by decide +kernel
theorem dX11_write_132 : decode cX11_write 132 = .ok (.invokestatic 189, 3) := by decide +kernel
theorem dX11_write_135 : decode cX11_write 135 = .ok (.iload 4, 2) := by decide +kernel
theorem dX11_write_137 : decode cX11_write 137 = .ok (.iconst 4, 1) := by decide +kernel
theorem dX11_write_138 : decode cX11_write 138 = .ok (.if_icmp .ne 10, 3) := by decide +kernel
theorem dX11_write_141 : decode cX11_write 141 = .ok (.aload_n 0, 1) := by decide +kernel
theorem dX11_write_142 : decode cX11_write 142 = .ok (.invokevirtual 193, 3) := by decide +kernel
theorem dX11_write_145 : decode cX11_write 145 = .ok (.goto 7, 3) := by decide +kernel
theorem dX11_write_148 : decode cX11_write 148 = .ok (.aload_n 0, 1) := by decide +kernel
theorem dX11_write_149 : decode cX11_write 149 = .ok (.invokevirtual 196, 3) := by decide +kernel
theorem dX11_write_152 : decode cX11_write 152 = .ok (.aload_n 0, 1) := by decide +kernel
theorem dX11_write_153 : decode cX11_write 153 = .ok (.invokevirtual 124, 3) := by decide +kernel
theorem dX11_write_156 : decode cX11_write 156 = .ok (.invokevirtual 199, 3) := by decide +kernel
theorem dX11_write_159 : decode cX11_write 159 = .ok (.goto 97, 3) := by decide +kernel
theorem dX11_write_162 : decode cX11_write 162 = .ok (.iload_n 2, 1) := by decide +kernel
theorem dX11_write_163 : decode cX11_write 163 = .ok (.ifCond .eq 10, 3) := by decide +kernel
theorem dX11_write_166 : decode cX11_write 166 = .ok (.iconst 1, 1) := by decide +kernel
theorem dX11_write_167 : decode cX11_write 167 = .ok (.iload 5, 2) := by decide +kernel
theorem dX11_write_169 : decode cX11_write 169 = .ok (.isub, 1) := by decide +kernel
theorem dX11_write_170 : decode cX11_write 170 = .ok (.goto 5, 3) := by decide +kernel
theorem dX11_write_173 : decode cX11_write 173 = .ok (.iload 5, 2) := by decide +kernel
theorem dX11_write_175 : decode cX11_write 175 = .ok (.istore 6, 2) := by decide +kernel
theorem dX11_write_177 : decode cX11_write 177 = .ok (.iload 4, 2) := by decide +kernel
theorem dX11_write_179 : decode cX11_write 179 = .ok (.iload 6, 2) := by decide +kernel
theorem dX11_write_181 : decode cX11_write 181 = .ok (.invokestatic 203, 3) := by decide +kernel
theorem dX11_write_184 : decode cX11_write 184 = .ok (.istore 7, 2) := by decide +kernel
theorem dX11_write_186 : decode cX11_write 186 = .ok (.iload 4, 2) := by decide +kernel
theorem dX11_write_188 : decode cX11_write 188 = .ok (.iload 6, 2) := by decide +kernel
theorem dX11_write_190 : decode cX11_write 190 = .ok (.invokestatic 189, 3) := by decide +kernel
theorem dX11_write_193 : decode cX11_write 193 = .ok (.istore 8, 2) := by decide +kernel
theorem dX11_write_195 : decode cX11_write 195 = .ok (.aload_n 0, 1) := by decide +kernel
theorem dX11_write_196 : decode cX11_write 196 = .ok (.iload 8, 2) := by decide +kernel
theorem dX11_write_198 : decode cX11_write 198 = .ok (.iload 8, 2) := by decide +kernel
theorem dX11_write_200 : decode cX11_write 200 = .ok (.bipush 6, 2) := by decide +kernel
theorem dX11_write_202 : decode cX11_write 202 = .ok (.if_icmp .ne 10, 3) := by decide +kernel
theorem dX11_write_205 : decode cX11_write 205 = .ok (.aload_n 0, 1) := by decide +kernel
theorem dX11_write_206 : decode cX11_write 206 = .ok (.invokevirtual 193, 3) := by decide +kernel
theorem dX11_write_209 : decode cX11_write 209 = .ok (.goto 7, 3) := by decide +kernel
theorem dX11_write_212 : decode cX11_write 212 = .ok (.aload_n 0, 1) := by decide +kernel
theorem dX11_write_213 : decode cX11_write 213 = .ok (.invokevirtual 196, 3) := by decide +kernel
theorem dX11_write_216 : decode cX11_write 216 = .ok (.aload_n 0, 1) := by decide +kernel
theorem dX11_write_217 : decode cX11_write 217 = .ok (.invokevirtual 196, 3) := by decide +kernel
theorem dX11_write_220 : decode cX11_write 220 = .ok (.aload_n 0, 1) := by decide +kernel
theorem dX11_write_221 : decode cX11_write 221 = .ok (.invokevirtual 124, 3) := by decide +kernel
theorem dX11_write_224 : decode cX11_write 224 = .ok (.iload 7, 2) := by decide +kernel
theorem dX11_write_226 : decode cX11_write 226 = .ok (.ifCond .ne 10, 3) := by decide +kernel
theorem dX11_write_229 : decode cX11_write 229 = .ok (.aload_n 0, 1) := by decide +kernel
theorem dX11_write_230 : decode cX11_write 230 = .ok (.getfield 100, 3) := by decide +kernel
theorem dX11_write_233 : decode cX11_write 233 = .ok (.goto 20, 3) := by decide +kernel
theorem dX11_write_236 : decode cX11_write 236 = .ok (.iload 7, 2) := by decide +kernel
theorem dX11_write_238 : decode cX11_write 238 = .ok (.iconst 1, 1) := by decide +kernel
theorem dX11_write_239 : decode cX11_write 239 = .ok (.if_icmp .ne 10, 3) := by decide +kernel
theorem dX11_write_242 : decode cX11_write 242 = .ok (.aload_n 0, 1) := by decide +kernel
theorem dX11_write_243 : decode cX11_write 243 = .ok (.getfield 104, 3) := by decide +kernel
theorem dX11_write_246 : decode cX11_write 246 = .ok (.goto 7, 3) := by decide +kernel
theorem dX11_write_249 : decode cX11_write 249 = .ok (.aload_n 0, 1) := by decide +kernel
theorem dX11_write_250 : decode cX11_write 250 = .ok (.getfield 107, 3) := by decide +kernel
theorem dX11_write_253 : decode cX11_write 253 = .ok (.invokevirtual 185, 3) := by decide +kernel
theorem dX11_write_256 : decode cX11_write 256 = .ok (.iinc 5 1, 3) := by decide +kernel
theorem dX11_write_259 : decode cX11_write 259 = .ok (.goto (-189), 3) := by decide +kernel
theorem dX11_write_262 : decode cX11_write 262 = .ok (.aload_n 0, 1) := by decide +kernel
theorem dX11_write_263 : decode cX11_write 263 = .ok (.getfield 7, 3) := by decide +kernel
theorem dX11_write_266 : decode cX11_write 266 = .ok (.bipush 10, 2) := by decide +kernel
theorem dX11_write_268 : decode cX11_write 268 = .ok (.iaload, 1) := by decide +kernel
theorem dX11_write_269 : decode cX11_write 269 = .ok (.ireturn, 1) := by decide +kernel
theorem dX11_written_0 : decode cX11_written 0 = .ok (.iload_n 1, 1) := by decide +kernel
theorem dX11_written_1 : decode cX11_written 1 = .ok (.iconst 0, 1) := by decide +kernel
theorem dX11_written_2 : decode cX11_written 2 = .ok (.aload_n 0, 1) := by decide +kernel
theorem dX11_written_3 : decode cX11_written 3 = .ok (.getfield 7, 3) := by decide +kernel
theorem dX11_written_6 : decode cX11_written 6 = .ok (.bipush 10, 2) := by decide +kernel
theorem dX11_written_8 : decode cX11_written 8 = .ok (.iaload, 1) := by decide +kernel
theorem dX11_written_9 : decode cX11_written 9 = .ok (.iconst 1, 1) := by decide +kernel
theorem dX11_written_10 : decode cX11_written 10 = .ok (.isub, 1) := by decide +kernel
theorem dX11_written_11 : decode cX11_written 11 = .ok (.invokestatic 67, 3) := by decide +kernel
theorem dX11_written_14 : decode cX11_written 14 = .ok (.ifCond .eq 15, 3) := by decide +kernel
theorem dX11_written_17 : decode cX11_written 17 = .ok (.aload_n 0, 1) := by decide +kernel
theorem dX11_written_18 : decode cX11_written 18 = .ok (.getfield 7, 3) := by decide +kernel
theorem dX11_written_21 : decode cX11_written 21 = .ok (.bipush 62, 2) := by decide +kernel
theorem dX11_written_23 : decode cX11_written 23 = .ok (.iload_n 1, 1) := by decide +kernel
theorem dX11_written_24 : decode cX11_written 24 = .ok (.iadd, 1) := by decide +kernel
theorem dX11_written_25 : decode cX11_written 25 = .ok (.iaload, 1) := by decide +kernel
theorem dX11_written_26 : decode cX11_written 26 = .ok (.goto 4, 3) := by decide +kernel
theorem dX11_written_29 : decode cX11_written 29 = .ok (.iconst (-1), 1) := by decide +kernel
theorem dX11_written_30 : decode cX11_written 30 = .ok (.ireturn, 1) := by decide +kernel
theorem dX11_take_0 : decode cX11_take 0 = .ok (.aload_n 0, 1) := by decide +kernel
theorem dX11_take_1 : decode cX11_take 1 = .ok (.getfield 7, 3) := by decide +kernel
theorem dX11_take_4 : decode cX11_take 4 = .ok (.bipush 10, 2) := by decide +kernel
theorem dX11_take_6 : decode cX11_take 6 = .ok (.iaload, 1) := by decide +kernel
theorem dX11_take_7 : decode cX11_take 7 = .ok (.ifCond .eq 16, 3) := by decide +kernel
theorem dX11_take_10 : decode cX11_take 10 = .ok (.aload_n 0, 1) := by decide +kernel
theorem dX11_take_11 : decode cX11_take 11 = .ok (.getfield 7, 3) := by decide +kernel
theorem dX11_take_14 : decode cX11_take 14 = .ok (.bipush 10, 2) := by decide +kernel
theorem dX11_take_16 : decode cX11_take 16 = .ok (.iaload, 1) := by decide +kernel
theorem dX11_take_17 : decode cX11_take 17 = .ok (.sipush 400, 3) := by decide +kernel
theorem dX11_take_20 : decode cX11_take 20 = .ok (.if_icmp .le 5, 3) := by decide +kernel
theorem dX11_take_23 : decode cX11_take 23 = .ok (.iconst (-1), 1) := by decide +kernel
theorem dX11_take_24 : decode cX11_take 24 = .ok (.ireturn, 1) := by decide +kernel
theorem dX11_take_25 : decode cX11_take 25 = .ok (.iconst 0, 1) := by decide +kernel
theorem dX11_take_26 : decode cX11_take 26 = .ok (.istore_n 1, 1) := by decide +kernel
theorem dX11_take_27 : decode cX11_take 27 = .ok (.iload_n 1, 1) := by decide +kernel
theorem dX11_take_28 : decode cX11_take 28 = .ok (.aload_n 0, 1) := by decide +kernel
theorem dX11_take_29 : decode cX11_take 29 = .ok (.getfield 7, 3) := by decide +kernel
theorem dX11_take_32 : decode cX11_take 32 = .ok (.bipush 10, 2) := by decide +kernel
theorem dX11_take_34 : decode cX11_take 34 = .ok (.iaload, 1) := by decide +kernel
theorem dX11_take_35 : decode cX11_take 35 = .ok (.if_icmp .ge 28, 3) := by decide +kernel
theorem dX11_take_38 : decode cX11_take 38 = .ok (.aload_n 0, 1) := by decide +kernel
theorem dX11_take_39 : decode cX11_take 39 = .ok (.getfield 7, 3) := by decide +kernel
theorem dX11_take_42 : decode cX11_take 42 = .ok (.sipush 562, 3) := by decide +kernel
theorem dX11_take_45 : decode cX11_take 45 = .ok (.iload_n 1, 1) := by decide +kernel
theorem dX11_take_46 : decode cX11_take 46 = .ok (.iadd, 1) := by decide +kernel
theorem dX11_take_47 : decode cX11_take 47 = .ok (.aload_n 0, 1) := by decide +kernel
theorem dX11_take_48 : decode cX11_take 48 = .ok (.getfield 7, 3) := by decide +kernel
theorem dX11_take_51 : decode cX11_take 51 = .ok (.bipush 62, 2) := by decide +kernel
theorem dX11_take_53 : decode cX11_take 53 = .ok (.iload_n 1, 1) := by decide +kernel
theorem dX11_take_54 : decode cX11_take 54 = .ok (.iadd, 1) := by decide +kernel
theorem dX11_take_55 : decode cX11_take 55 = .ok (.iaload, 1) := by decide +kernel
theorem dX11_take_56 : decode cX11_take 56 = .ok (.iastore, 1) := by decide +kernel
theorem dX11_take_57 : decode cX11_take 57 = .ok (.iinc 1 1, 3) := by decide +kernel
theorem dX11_take_60 : decode cX11_take 60 = .ok (.goto (-33), 3) := by decide +kernel
theorem dX11_take_63 : decode cX11_take 63 = .ok (.aload_n 0, 1) := by decide +kernel
theorem dX11_take_64 : decode cX11_take 64 = .ok (.getfield 7, 3) := by decide +kernel
theorem dX11_take_67 : decode cX11_take 67 = .ok (.bipush 11, 2) := by decide +kernel
theorem dX11_take_69 : decode cX11_take 69 = .ok (.aload_n 0, 1) := by decide +kernel
theorem dX11_take_70 : decode cX11_take 70 = .ok (.getfield 7, 3) := by decide +kernel
theorem dX11_take_73 : decode cX11_take 73 = .ok (.bipush 10, 2) := by decide +kernel
theorem dX11_take_75 : decode cX11_take 75 = .ok (.iaload, 1) := by decide +kernel
theorem dX11_take_76 : decode cX11_take 76 = .ok (.iastore, 1) := by decide +kernel
theorem dX11_take_77 : decode cX11_take 77 = .ok (.aload_n 0, 1) := by decide +kernel
theorem dX11_take_78 : decode cX11_take 78 = .ok (.getfield 7, 3) := by decide +kernel
theorem dX11_take_81 : decode cX11_take 81 = .ok (.bipush 11, 2) := by decide +kernel
theorem dX11_take_83 : decode cX11_take 83 = .ok (.iaload, 1) := by decide +kernel
theorem dX11_take_84 : decode cX11_take 84 = .ok (.ireturn, 1) := by decide +kernel
theorem dX11_feed_0 : decode cX11_feed 0 = .ok (.aload_n 0, 1) := by decide +kernel
theorem dX11_feed_1 : decode cX11_feed 1 = .ok (.getfield 7, 3) := by decide +kernel
theorem dX11_feed_4 : decode cX11_feed 4 = .ok (.bipush 11, 2) := by decide +kernel
theorem dX11_feed_6 : decode cX11_feed 6 = .ok (.iaload, 1) := by decide +kernel
theorem dX11_feed_7 : decode cX11_feed 7 = .ok (.bipush 20, 2) := by decide +kernel
theorem dX11_feed_9 : decode cX11_feed 9 = .ok (.iadd, 1) := by decide +kernel
theorem dX11_feed_10 : decode cX11_feed 10 = .ok (.sipush 400, 3) := by decide +kernel
theorem dX11_feed_13 : decode cX11_feed 13 = .ok (.if_icmp .le 5, 3) := by decide +kernel
theorem dX11_feed_16 : decode cX11_feed 16 = .ok (.iconst (-1), 1) := by decide +kernel
theorem dX11_feed_17 : decode cX11_feed 17 = .ok (.ireturn, 1) := by decide +kernel
theorem dX11_feed_18 : decode cX11_feed 18 = .ok (.iconst 0, 1) := by decide +kernel
theorem dX11_feed_19 : decode cX11_feed 19 = .ok (.istore 6, 2) := by decide +kernel
theorem dX11_feed_21 : decode cX11_feed 21 = .ok (.iload 6, 2) := by decide +kernel
theorem dX11_feed_23 : decode cX11_feed 23 = .ok (.bipush 20, 2) := by decide +kernel
theorem dX11_feed_25 : decode cX11_feed 25 = .ok (.if_icmp .ge 101, 3) := by decide +kernel
theorem dX11_feed_28 : decode cX11_feed 28 = .ok (.iload 6, 2) := by decide +kernel
theorem dX11_feed_30 : decode cX11_feed 30 = .ok (.iconst 4, 1) := by decide +kernel
theorem dX11_feed_31 : decode cX11_feed 31 = .ok (.if_icmp .ge 7, 3) := by decide +kernel
theorem dX11_feed_34 : decode cX11_feed 34 = .ok (.iload_n 1, 1) := by decide +kernel
theorem dX11_feed_35 : decode cX11_feed 35 = .ok (.goto 39, 3) := by decide +kernel
theorem dX11_feed_38 : decode cX11_feed 38 = .ok (.iload 6, 2) := by decide +kernel
theorem dX11_feed_40 : decode cX11_feed 40 = .ok (.bipush 8, 2) := by decide +kernel
theorem dX11_feed_42 : decode cX11_feed 42 = .ok (.if_icmp .ge 7, 3) := by decide +kernel
theorem dX11_feed_45 : decode cX11_feed 45 = .ok (.iload_n 2, 1) := by decide +kernel
theorem dX11_feed_46 : decode cX11_feed 46 = .ok (.goto 28, 3) := by decide +kernel
theorem dX11_feed_49 : decode cX11_feed 49 = .ok (.iload 6, 2) := by decide +kernel
theorem dX11_feed_51 : decode cX11_feed 51 = .ok (.bipush 12, 2) := by decide +kernel
theorem dX11_feed_53 : decode cX11_feed 53 = .ok (.if_icmp .ge 7, 3) := by decide +kernel
theorem dX11_feed_56 : decode cX11_feed 56 = .ok (.iload_n 3, 1) := by decide +kernel
theorem dX11_feed_57 : decode cX11_feed 57 = .ok (.goto 17, 3) := by decide +kernel
theorem dX11_feed_60 : decode cX11_feed 60 = .ok (.iload 6, 2) := by decide +kernel
theorem dX11_feed_62 : decode cX11_feed 62 = .ok (.bipush 16, 2) := by decide +kernel
theorem dX11_feed_64 : decode cX11_feed 64 = .ok (.if_icmp .ge 8, 3) := by decide +kernel
theorem dX11_feed_67 : decode cX11_feed 67 = .ok (.iload 4, 2) := by decide +kernel
theorem dX11_feed_69 : decode cX11_feed 69 = .ok (.goto 5, 3) := by decide +kernel
theorem dX11_feed_72 : decode cX11_feed 72 = .ok (.iload 5, 2) := by decide +kernel
theorem dX11_feed_74 : decode cX11_feed 74 = .ok (.istore 7, 2) := by decide +kernel
theorem dX11_feed_76 : decode cX11_feed 76 = .ok (.aload_n 0, 1) := by decide +kernel
theorem dX11_feed_77 : decode cX11_feed 77 = .ok (.getfield 7, 3) := by decide +kernel
theorem dX11_feed_80 : decode cX11_feed 80 = .ok (.sipush 562, 3) := by decide +kernel
theorem dX11_feed_83 : decode cX11_feed 83 = .ok (.aload_n 0, 1) := by decide +kernel
theorem dX11_feed_84 : decode cX11_feed 84 = .ok (.getfield 7, 3) := by decide +kernel
theorem dX11_feed_87 : decode cX11_feed 87 = .ok (.bipush 11, 2) := by decide +kernel
theorem dX11_feed_89 : decode cX11_feed 89 = .ok (.iaload, 1) := by decide +kernel
theorem dX11_feed_90 : decode cX11_feed 90 = .ok (.iadd, 1) := by decide +kernel
theorem dX11_feed_91 : decode cX11_feed 91 = .ok (.iload 7, 2) := by decide +kernel
theorem dX11_feed_93 : decode cX11_feed 93 = .ok (.bipush 24, 2) := by decide +kernel
theorem dX11_feed_95 : decode cX11_feed 95 = .ok (.bipush 8, 2) := by decide +kernel
theorem dX11_feed_97 : decode cX11_feed 97 = .ok (.iload 6, 2) := by decide +kernel
theorem dX11_feed_99 : decode cX11_feed 99 = .ok (.iconst 4, 1) := by decide +kernel
theorem dX11_feed_100 : decode cX11_feed 100 = .ok (.irem, 1) := by decide +kernel
theorem dX11_feed_101 : decode cX11_feed 101 = .ok (.imul, 1) := by decide +kernel
theorem dX11_feed_102 : decode cX11_feed 102 = .ok (.isub, 1) := by decide +kernel
theorem dX11_feed_103 : decode cX11_feed 103 = .ok (.ishr, 1) := by decide +kernel
theorem dX11_feed_104 : decode cX11_feed 104 = .ok (.sipush 255, 3) := by decide +kernel
theorem dX11_feed_107 : decode cX11_feed 107 = .ok (.iand, 1) := by decide +kernel
theorem dX11_feed_108 : decode cX11_feed 108 = .ok (.iastore, 1) := by decide +kernel
theorem dX11_feed_109 : decode cX11_feed 109 = .ok (.aload_n 0, 1) := by decide +kernel
theorem dX11_feed_110 : decode cX11_feed 110 = .ok (.getfield 7, 3) := by decide +kernel
theorem dX11_feed_113 : decode cX11_feed 113 = .ok (.bipush 11, 2) := by decide +kernel
theorem dX11_feed_115 : decode cX11_feed 115 = .ok (.dup2, 1) := by decide +kernel
theorem dX11_feed_116 : decode cX11_feed 116 = .ok (.iaload, 1) := by decide +kernel
theorem dX11_feed_117 : decode cX11_feed 117 = .ok (.iconst 1, 1) := by decide +kernel
theorem dX11_feed_118 : decode cX11_feed 118 = .ok (.iadd, 1) := by decide +kernel
theorem dX11_feed_119 : decode cX11_feed 119 = .ok (.iastore, 1) := by decide +kernel
theorem dX11_feed_120 : decode cX11_feed 120 = .ok (.iinc 6 1, 3) := by decide +kernel
theorem dX11_feed_123 : decode cX11_feed 123 = .ok (.goto (-102), 3) := by decide +kernel
theorem dX11_feed_126 : decode cX11_feed 126 = .ok (.aload_n 0, 1) := by decide +kernel
theorem dX11_feed_127 : decode cX11_feed 127 = .ok (.getfield 7, 3) := by decide +kernel
theorem dX11_feed_130 : decode cX11_feed 130 = .ok (.bipush 11, 2) := by decide +kernel
theorem dX11_feed_132 : decode cX11_feed 132 = .ok (.iaload, 1) := by decide +kernel
theorem dX11_feed_133 : decode cX11_feed 133 = .ok (.ireturn, 1) := by decide +kernel
theorem dX11_end_0 : decode cX11_end 0 = .ok (.iload_n 1, 1) := by decide +kernel
theorem dX11_end_1 : decode cX11_end 1 = .ok (.ifCond .lt 14, 3) := by decide +kernel
theorem dX11_end_4 : decode cX11_end 4 = .ok (.iload_n 1, 1) := by decide +kernel
theorem dX11_end_5 : decode cX11_end 5 = .ok (.aload_n 0, 1) := by decide +kernel
theorem dX11_end_6 : decode cX11_end 6 = .ok (.getfield 7, 3) := by decide +kernel
theorem dX11_end_9 : decode cX11_end 9 = .ok (.bipush 11, 2) := by decide +kernel
theorem dX11_end_11 : decode cX11_end 11 = .ok (.iaload, 1) := by decide +kernel
theorem dX11_end_12 : decode cX11_end 12 = .ok (.if_icmp .le 5, 3) := by decide +kernel
theorem dX11_end_15 : decode cX11_end 15 = .ok (.iconst (-1), 1) := by decide +kernel
theorem dX11_end_16 : decode cX11_end 16 = .ok (.ireturn, 1) := by decide +kernel
theorem dX11_end_17 : decode cX11_end 17 = .ok (.aload_n 0, 1) := by decide +kernel
theorem dX11_end_18 : decode cX11_end 18 = .ok (.getfield 7, 3) := by decide +kernel
theorem dX11_end_21 : decode cX11_end 21 = .ok (.bipush 11, 2) := by decide +kernel
theorem dX11_end_23 : decode cX11_end 23 = .ok (.iload_n 1, 1) := by decide +kernel
theorem dX11_end_24 : decode cX11_end 24 = .ok (.iastore, 1) := by decide +kernel
theorem dX11_end_25 : decode cX11_end 25 = .ok (.iload_n 1, 1) := by decide +kernel
theorem dX11_end_26 : decode cX11_end 26 = .ok (.ireturn, 1) := by decide +kernel
theorem dX11_byteAt_0 : decode cX11_byteAt 0 = .ok (.iload_n 1, 1) := by decide +kernel
theorem dX11_byteAt_1 : decode cX11_byteAt 1 = .ok (.aload_n 0, 1) := by decide +kernel
theorem dX11_byteAt_2 : decode cX11_byteAt 2 = .ok (.getfield 206, 3) := by decide +kernel
theorem dX11_byteAt_5 : decode cX11_byteAt 5 = .ok (.if_icmp .ge 16, 3) := by decide +kernel
theorem dX11_byteAt_8 : decode cX11_byteAt 8 = .ok (.aload_n 0, 1) := by decide +kernel
theorem dX11_byteAt_9 : decode cX11_byteAt 9 = .ok (.getfield 7, 3) := by decide +kernel
theorem dX11_byteAt_12 : decode cX11_byteAt 12 = .ok (.sipush 562, 3) := by decide +kernel
theorem dX11_byteAt_15 : decode cX11_byteAt 15 = .ok (.iload_n 1, 1) := by decide +kernel
theorem dX11_byteAt_16 : decode cX11_byteAt 16 = .ok (.iadd, 1) := by decide +kernel
theorem dX11_byteAt_17 : decode cX11_byteAt 17 = .ok (.iaload, 1) := by decide +kernel
theorem dX11_byteAt_18 : decode cX11_byteAt 18 = .ok (.goto 4, 3) := by decide +kernel
theorem dX11_byteAt_21 : decode cX11_byteAt 21 = .ok (.iconst (-1), 1) := by decide +kernel
theorem dX11_byteAt_22 : decode cX11_byteAt 22 = .ok (.ireturn, 1) := by decide +kernel
theorem dX11_isLetter_0 : decode cX11_isLetter 0 = .ok (.iload_n 0, 1) := by decide +kernel
theorem dX11_isLetter_1 : decode cX11_isLetter 1 = .ok (.bipush 97, 2) := by decide +kernel
theorem dX11_isLetter_3 : decode cX11_isLetter 3 = .ok (.if_icmp .lt 13, 3) := by decide +kernel
theorem dX11_isLetter_6 : decode cX11_isLetter 6 = .ok (.iload_n 0, 1) := by decide +kernel
theorem dX11_isLetter_7 : decode cX11_isLetter 7 = .ok (.bipush 122, 2) := by decide +kernel
theorem dX11_isLetter_9 : decode cX11_isLetter 9 = .ok (.if_icmp .gt 7, 3) := by decide +kernel
theorem dX11_isLetter_12 : decode cX11_isLetter 12 = .ok (.iconst 1, 1) := by decide +kernel
theorem dX11_isLetter_13 : decode cX11_isLetter 13 = .ok (.goto 4, 3) := by decide +kernel
theorem dX11_isLetter_16 : decode cX11_isLetter 16 = .ok (.iconst 0, 1) := by decide +kernel
theorem dX11_isLetter_17 : decode cX11_isLetter 17 = .ok (.ireturn, 1) := by decide +kernel
theorem dX11_isDigit_0 : decode cX11_isDigit 0 = .ok (.iload_n 0, 1) := by decide +kernel
theorem dX11_isDigit_1 : decode cX11_isDigit 1 = .ok (.bipush 48, 2) := by decide +kernel
theorem dX11_isDigit_3 : decode cX11_isDigit 3 = .ok (.if_icmp .lt 13, 3) := by decide +kernel
theorem dX11_isDigit_6 : decode cX11_isDigit 6 = .ok (.iload_n 0, 1) := by decide +kernel
theorem dX11_isDigit_7 : decode cX11_isDigit 7 = .ok (.bipush 57, 2) := by decide +kernel
theorem dX11_isDigit_9 : decode cX11_isDigit 9 = .ok (.if_icmp .gt 7, 3) := by decide +kernel
theorem dX11_isDigit_12 : decode cX11_isDigit 12 = .ok (.iconst 1, 1) := by decide +kernel
theorem dX11_isDigit_13 : decode cX11_isDigit 13 = .ok (.goto 4, 3) := by decide +kernel
theorem dX11_isDigit_16 : decode cX11_isDigit 16 = .ok (.iconst 0, 1) := by decide +kernel
theorem dX11_isDigit_17 : decode cX11_isDigit 17 = .ok (.ireturn, 1) := by decide +kernel
theorem dX11_advance_0 : decode cX11_advance 0 = .ok (.aload_n 0, 1) := by decide +kernel
theorem dX11_advance_1 : decode cX11_advance 1 = .ok (.aload_n 0, 1) := by decide +kernel
theorem dX11_advance_2 : decode cX11_advance 2 = .ok (.getfield 209, 3) := by decide +kernel
theorem dX11_advance_5 : decode cX11_advance 5 = .ok (.invokevirtual 212, 3) := by decide +kernel
theorem dX11_advance_8 : decode cX11_advance 8 = .ok (.bipush 10, 2) := by decide +kernel
theorem dX11_advance_10 : decode cX11_advance 10 = .ok (.if_icmp .eq 16, 3) := by decide +kernel
theorem dX11_advance_13 : decode cX11_advance 13 = .ok (.aload_n 0, 1) := by decide +kernel
theorem dX11_advance_14 : decode cX11_advance 14 = .ok (.aload_n 0, 1) := by decide +kernel
theorem dX11_advance_15 : decode cX11_advance 15 = .ok (.getfield 209, 3) := by decide +kernel
theorem dX11_advance_18 : decode cX11_advance 18 = .ok (.invokevirtual 212, 3) := by decide +kernel
theorem dX11_advance_21 : decode cX11_advance 21 = .ok (.bipush 32, 2) := by decide +kernel
theorem dX11_advance_23 : decode cX11_advance 23 = .ok (.if_icmp .ne 16, 3) := by decide +kernel
theorem dX11_advance_26 : decode cX11_advance 26 = .ok (.aload_n 0, 1) := by decide +kernel
theorem dX11_advance_27 : decode cX11_advance 27 = .ok (.dup, 1) := by decide +kernel
theorem dX11_advance_28 : decode cX11_advance 28 = .ok (.getfield 209, 3) := by decide +kernel
theorem dX11_advance_31 : decode cX11_advance 31 = .ok (.iconst 1, 1) := by decide +kernel
theorem dX11_advance_32 : decode cX11_advance 32 = .ok (.iadd, 1) := by decide +kernel
theorem dX11_advance_33 : decode cX11_advance 33 = .ok (.putfield 209, 3) := by decide +kernel
theorem dX11_advance_36 : decode cX11_advance 36 = .ok (.goto (-36), 3) := by decide +kernel
theorem dX11_advance_39 : decode cX11_advance 39 = .ok (.aload_n 0, 1) := by decide +kernel
theorem dX11_advance_40 : decode cX11_advance 40 = .ok (.aload_n 0, 1) := by decide +kernel
theorem dX11_advance_41 : decode cX11_advance 41 = .ok (.getfield 209, 3) := by decide +kernel
theorem dX11_advance_44 : decode cX11_advance 44 = .ok (.putfield 215, 3) := by decide +kernel
theorem dX11_advance_47 : decode cX11_advance 47 = .ok (.aload_n 0, 1) := by decide +kernel
theorem dX11_advance_48 : decode cX11_advance 48 = .ok (.aload_n 0, 1) := by decide +kernel
theorem dX11_advance_49 : decode cX11_advance 49 = .ok (.getfield 209, 3) := by decide +kernel
theorem dX11_advance_52 : decode cX11_advance 52 = .ok (.invokevirtual 212, 3) := by decide +kernel
theorem dX11_advance_55 : decode cX11_advance 55 = .ok (.istore_n 1, 1) := by decide +kernel
theorem dX11_advance_56 : decode cX11_advance 56 = .ok (.iload_n 1, 1) := by decide +kernel
theorem dX11_advance_57 : decode cX11_advance 57 = .ok (.ifCond .ge 11, 3) := by decide +kernel
theorem dX11_advance_60 : decode cX11_advance 60 = .ok (.aload_n 0, 1) := by decide +kernel
theorem dX11_advance_61 : decode cX11_advance 61 = .ok (.iconst 0, 1) := by decide +kernel
theorem dX11_advance_62 : decode cX11_advance 62 = .ok (.putfield 218, 3) := by decide +kernel
theorem dX11_advance_65 : decode cX11_advance 65 = .ok (.goto 269, 3) := by decide +kernel
theorem dX11_advance_68 : decode cX11_advance 68 = .ok (.iload_n 1, 1) := by decide +kernel
theorem dX11_advance_69 : decode cX11_advance 69 = .ok (.invokestatic 221, 3) := by decide +kernel
theorem dX11_advance_72 : decode cX11_advance 72 = .ok (.ifCond .eq 121, 3) := by decide +kernel
theorem dX11_advance_75 : decode cX11_advance 75 = .ok (.lconst 0, 1) := by decide +kernel
theorem dX11_advance_76 : decode cX11_advance 76 = .ok (.lstore_n 2, 1) := by decide +kernel
theorem dX11_advance_77 : decode cX11_advance 77 = .ok (.aload_n 0, 1) := by decide +kernel
theorem dX11_advance_78 : decode cX11_advance 78 = .ok (.aload_n 0, 1) := by decide +kernel
theorem dX11_advance_79 : decode cX11_advance 79 = .ok (.getfield 209, 3) := by decide +kernel
theorem dX11_advance_82 : decode cX11_advance 82 = .ok (.invokevirtual 212, 3) := by decide +kernel
theorem dX11_advance_85 : decode cX11_advance 85 = .ok (.invokestatic 221, 3) := by decide +kernel
theorem dX11_advance_88 : decode cX11_advance 88 = .ok (.ifCond .eq 45, 3) := by decide +kernel
theorem dX11_advance_91 : decode cX11_advance 91 = .ok (.aload_n 0, 1) := by decide +kernel
theorem dX11_advance_92 : decode cX11_advance 92 = .ok (.getfield 209, 3) := by decide +kernel
theorem dX11_advance_95 : decode cX11_advance 95 = .ok (.aload_n 0, 1) := by decide +kernel
theorem dX11_advance_96 : decode cX11_advance 96 = .ok (.getfield 215, 3) := by decide +kernel
theorem dX11_advance_99 : decode cX11_advance 99 = .ok (.isub, 1) := by decide +kernel
theorem dX11_advance_100 : decode cX11_advance 100 = .ok (.bipush 8, 2) := by decide +kernel
theorem dX11_advance_102 : decode cX11_advance 102 = .ok (.if_icmp .ge 18, 3) := by decide +kernel
theorem dX11_advance_105 : decode cX11_advance 105 = .ok (.lload_n 2, 1) := by decide +kernel
theorem dX11_advance_106 : decode cX11_advance 106 = .ok (.bipush 8, 2) := by decide +kernel
theorem dX11_advance_108 : decode cX11_advance 108 = .ok (.lshl, 1) := by decide +kernel
theorem dX11_advance_109 : decode cX11_advance 109 = .ok (.aload_n 0, 1) := by decide +kernel
theorem dX11_advance_110 : decode cX11_advance 110 = .ok (.aload_n 0, 1) := by decide +kernel
theorem dX11_advance_111 : decode cX11_advance 111 = .ok (.getfield 209, 3) := by decide +kernel
theorem dX11_advance_114 : decode cX11_advance 114 = .ok (.invokevirtual 212, 3) := by decide +kernel
theorem dX11_advance_117 : decode cX11_advance 117 = .ok (.i2l, 1) := by decide +kernel
theorem dX11_advance_118 : decode cX11_advance 118 = .ok (.lor, 1) := by decide +kernel
theorem dX11_advance_119 : decode cX11_advance 119 = .ok (.lstore_n 2, 1) := by decide +kernel
theorem dX11_advance_120 : decode cX11_advance 120 = .ok (.aload_n 0, 1) := by decide +kernel
theorem dX11_advance_121 : decode cX11_advance 121 = .ok (.dup, 1) := by decide +kernel
theorem dX11_advance_122 : decode cX11_advance 122 = .ok (.getfield 209, 3) := by decide +kernel
theorem dX11_advance_125 : decode cX11_advance 125 = .ok (.iconst 1, 1) := by decide +kernel
theorem dX11_advance_126 : decode cX11_advance 126 = .ok (.iadd, 1) := by decide +kernel
theorem dX11_advance_127 : decode cX11_advance 127 = .ok (.putfield 209, 3) := by decide +kernel
theorem dX11_advance_130 : decode cX11_advance 130 = .ok (.goto (-53), 3) := by decide +kernel
theorem dX11_advance_133 : decode cX11_advance 133 = .ok (.aload_n 0, 1) := by decide +kernel
theorem dX11_advance_134 : decode cX11_advance 134 = .ok (.aload_n 0, 1) := by decide +kernel
theorem dX11_advance_135 : decode cX11_advance 135 = .ok (.getfield 209, 3) := by decide +kernel
theorem dX11_advance_138 : decode cX11_advance 138 = .ok (.aload_n 0, 1) := by decide +kernel
theorem dX11_advance_139 : decode cX11_advance 139 = .ok (.getfield 215, 3) := by decide +kernel
theorem dX11_advance_142 : decode cX11_advance 142 = .ok (.isub, 1) := by decide +kernel
theorem dX11_advance_143 : decode cX11_advance 143 = .ok (.bipush 8, 2) := by decide +kernel
theorem dX11_advance_145 : decode cX11_advance 145 = .ok (.if_icmp .le 7, 3) := by decide +kernel
theorem dX11_advance_148 : decode cX11_advance 148 = .ok (.iconst 4, 1) := by decide +kernel
theorem dX11_advance_149 : decode cX11_advance 149 = .ok (.goto 7, 3) := by decide +kernel
theorem dX11_advance_152 : decode cX11_advance 152 = .ok (.lload_n 2, 1) := by decide +kernel
theorem dX11_advance_153 : decode cX11_advance 153 = .ok (.invokestatic 71, 3) := by decide +kernel
theorem dX11_advance_156 : decode cX11_advance 156 = .ok (.putfield 218, 3) := by decide +kernel
theorem dX11_advance_159 : decode cX11_advance 159 = .ok (.aload_n 0, 1) := by decide +kernel
theorem dX11_advance_160 : decode cX11_advance 160 = .ok (.getfield 218, 3) := by decide +kernel
theorem dX11_advance_163 : decode cX11_advance 163 = .ok (.iconst 4, 1) := by decide +kernel
theorem dX11_advance_164 : decode cX11_advance 164 = .ok (.if_icmp .ne 26, 3) := by decide +kernel
theorem dX11_advance_167 : decode cX11_advance 167 = .ok (.aload_n 0, 1) := by decide +kernel
theorem dX11_advance_168 : decode cX11_advance 168 = .ok (.getfield 209, 3) := by decide +kernel
theorem dX11_advance_171 : decode cX11_advance 171 = .ok (.aload_n 0, 1) := by decide +kernel
theorem dX11_advance_172 : decode cX11_advance 172 = .ok (.getfield 215, 3) := by decide +kernel
theorem dX11_advance_175 : decode cX11_advance 175 = .ok (.isub, 1) := by decide +kernel
theorem dX11_advance_176 : decode cX11_advance 176 = .ok (.bipush 9, 2) := by decide +kernel
theorem dX11_advance_178 : decode cX11_advance 178 = .ok (.if_icmp .ge 12, 3) := by decide +kernel
theorem dX11_advance_181 : decode cX11_advance 181 = .ok (.aload_n 0, 1) := by decide +kernel
theorem dX11_advance_182 : decode cX11_advance 182 = .ok (.aload_n 0, 1) := by decide +kernel
theorem dX11_advance_183 : decode cX11_advance 183 = .ok (.lload_n 2, 1) := by decide +kernel
theorem dX11_advance_184 : decode cX11_advance 184 = .ok (.invokevirtual 75, 3) := by decide +kernel
theorem dX11_advance_187 : decode cX11_advance 187 = .ok (.putfield 218, 3) := by decide +kernel
theorem dX11_advance_190 : decode cX11_advance 190 = .ok (.goto 144, 3) := by decide +kernel
theorem dX11_advance_193 : decode cX11_advance 193 = .ok (.iload_n 1, 1) := by decide +kernel
theorem dX11_advance_194 : decode cX11_advance 194 = .ok (.invokestatic 224, 3) := by decide +kernel
theorem dX11_advance_197 : decode cX11_advance 197 = .ok (.ifCond .eq 102, 3) := by decide +kernel
theorem dX11_advance_200 : decode cX11_advance 200 = .ok (.aload_n 0, 1) := by decide +kernel
theorem dX11_advance_201 : decode cX11_advance 201 = .ok (.iconst 0, 1) := by decide +kernel
theorem dX11_advance_202 : decode cX11_advance 202 = .ok (.putfield 227, 3) := by decide +kernel
theorem dX11_advance_205 : decode cX11_advance 205 = .ok (.aload_n 0, 1) := by decide +kernel
theorem dX11_advance_206 : decode cX11_advance 206 = .ok (.aload_n 0, 1) := by decide +kernel
theorem dX11_advance_207 : decode cX11_advance 207 = .ok (.getfield 209, 3) := by decide +kernel
theorem dX11_advance_210 : decode cX11_advance 210 = .ok (.invokevirtual 212, 3) := by decide +kernel
theorem dX11_advance_213 : decode cX11_advance 213 = .ok (.invokestatic 224, 3) := by decide +kernel
theorem dX11_advance_216 : decode cX11_advance 216 = .ok (.ifCond .eq 52, 3) := by decide +kernel
theorem dX11_advance_219 : decode cX11_advance 219 = .ok (.aload_n 0, 1) := by decide +kernel
theorem dX11_advance_220 : decode cX11_advance 220 = .ok (.getfield 209, 3) := by decide +kernel
theorem dX11_advance_223 : decode cX11_advance 223 = .ok (.aload_n 0, 1) := by decide +kernel
theorem dX11_advance_224 : decode cX11_advance 224 = .ok (.getfield 215, 3) := by decide +kernel
theorem dX11_advance_227 : decode cX11_advance 227 = .ok (.isub, 1) := by decide +kernel
theorem dX11_advance_228 : decode cX11_advance 228 = .ok (.iconst 4, 1) := by decide +kernel
theorem dX11_advance_229 : decode cX11_advance 229 = .ok (.if_icmp .ge 26, 3) := by decide +kernel
theorem dX11_advance_232 : decode cX11_advance 232 = .ok (.aload_n 0, 1) := by decide +kernel
theorem dX11_advance_233 : decode cX11_advance 233 = .ok (.bipush 10, 2) := by decide +kernel
theorem dX11_advance_235 : decode cX11_advance 235 = .ok (.aload_n 0, 1) := by decide +kernel
theorem dX11_advance_236 : decode cX11_advance 236 = .ok (.getfield 227, 3) := by decide +kernel
theorem dX11_advance_239 : decode cX11_advance 239 = .ok (.imul, 1) := by decide +kernel
theorem dX11_advance_240 : decode cX11_advance 240 = .ok (.aload_n 0, 1) := by decide +kernel
theorem dX11_advance_241 : decode cX11_advance 241 = .ok (.aload_n 0, 1) := by decide +kernel
theorem dX11_advance_242 : decode cX11_advance 242 = .ok (.getfield 209, 3) := by decide +kernel
theorem dX11_advance_245 : decode cX11_advance 245 = .ok (.invokevirtual 212, 3) := by decide +kernel
theorem dX11_advance_248 : decode cX11_advance 248 = .ok (.iadd, 1) := by decide +kernel
theorem dX11_advance_249 : decode cX11_advance 249 = .ok (.bipush 48, 2) := by decide +kernel
theorem dX11_advance_251 : decode cX11_advance 251 = .ok (.isub, 1) := by decide +kernel
theorem dX11_advance_252 : decode cX11_advance 252 = .ok (.putfield 227, 3) := by decide +kernel
theorem dX11_advance_255 : decode cX11_advance 255 = .ok (.aload_n 0, 1) := by decide +kernel
theorem dX11_advance_256 : decode cX11_advance 256 = .ok (.dup, 1) := by decide +kernel
theorem dX11_advance_257 : decode cX11_advance 257 = .ok (.getfield 209, 3) := by decide +kernel
theorem dX11_advance_260 : decode cX11_advance 260 = .ok (.iconst 1, 1) := by decide +kernel
theorem dX11_advance_261 : decode cX11_advance 261 = .ok (.iadd, 1) := by decide +kernel
theorem dX11_advance_262 : decode cX11_advance 262 = .ok (.putfield 209, 3) := by decide +kernel
theorem dX11_advance_265 : decode cX11_advance 265 = .ok (.goto (-60), 3) := by decide +kernel
theorem dX11_advance_268 : decode cX11_advance 268 = .ok (.aload_n 0, 1) := by decide +kernel
theorem dX11_advance_269 : decode cX11_advance 269 = .ok (.aload_n 0, 1) := by decide +kernel
theorem dX11_advance_270 : decode cX11_advance 270 = .ok (.getfield 209, 3) := by decide +kernel
theorem dX11_advance_273 : decode cX11_advance 273 = .ok (.aload_n 0, 1) := by decide +kernel
theorem dX11_advance_274 : decode cX11_advance 274 = .ok (.getfield 215, 3) := by decide +kernel
theorem dX11_advance_277 : decode cX11_advance 277 = .ok (.isub, 1) := by decide +kernel
theorem dX11_advance_278 : decode cX11_advance 278 = .ok (.iconst 4, 1) := by decide +kernel
theorem dX11_advance_279 : decode cX11_advance 279 = .ok (.if_icmp .gt 9, 3) := by decide +kernel
theorem dX11_advance_282 : decode cX11_advance 282 = .ok (.iload_n 1, 1) := by decide +kernel
theorem dX11_advance_283 : decode cX11_advance 283 = .ok (.bipush 48, 2) := by decide +kernel
theorem dX11_advance_285 : decode cX11_advance 285 = .ok (.if_icmp .ne 7, 3) := by decide +kernel
theorem dX11_advance_288 : decode cX11_advance 288 = .ok (.iconst 4, 1) := by decide +kernel
theorem dX11_advance_289 : decode cX11_advance 289 = .ok (.goto 4, 3) := by decide +kernel
theorem dX11_advance_292 : decode cX11_advance 292 = .ok (.iconst 1, 1) := by decide +kernel
theorem dX11_advance_293 : decode cX11_advance 293 = .ok (.putfield 218, 3) := by decide +kernel
theorem dX11_advance_296 : decode cX11_advance 296 = .ok (.goto 38, 3) := by decide +kernel
theorem dX11_advance_299 : decode cX11_advance 299 = .ok (.aload_n 0, 1) := by decide +kernel
theorem dX11_advance_300 : decode cX11_advance 300 = .ok (.dup, 1) := by decide +kernel
theorem dX11_advance_301 : decode cX11_advance 301 = .ok (.getfield 209, 3) := by decide +kernel
theorem dX11_advance_304 : decode cX11_advance 304 = .ok (.iconst 1, 1) := by decide +kernel
theorem dX11_advance_305 : decode cX11_advance 305 = .ok (.iadd, 1) := by decide +kernel
theorem dX11_advance_306 : decode cX11_advance 306 = .ok (.putfield 209, 3) := by decide +kernel
theorem dX11_advance_309 : decode cX11_advance 309 = .ok (.aload_n 0, 1) := by decide +kernel
theorem dX11_advance_310 : decode cX11_advance 310 = .ok (.iload_n 1, 1) := by decide +kernel
theorem dX11_advance_311 : decode cX11_advance 311 = .ok (.bipush 46, 2) := by decide +kernel
theorem dX11_advance_313 : decode cX11_advance 313 = .ok (.if_icmp .ne 7, 3) := by decide +kernel
theorem dX11_advance_316 : decode cX11_advance 316 = .ok (.iconst 2, 1) := by decide +kernel
theorem dX11_advance_317 : decode cX11_advance 317 = .ok (.goto 14, 3) := by decide +kernel
theorem dX11_advance_320 : decode cX11_advance 320 = .ok (.iload_n 1, 1) := by decide +kernel
theorem dX11_advance_321 : decode cX11_advance 321 = .ok (.bipush 63, 2) := by decide +kernel
theorem dX11_advance_323 : decode cX11_advance 323 = .ok (.if_icmp .ne 7, 3) := by decide +kernel
theorem dX11_advance_326 : decode cX11_advance 326 = .ok (.iconst 3, 1) := by decide +kernel
theorem dX11_advance_327 : decode cX11_advance 327 = .ok (.goto 4, 3) := by decide +kernel
theorem dX11_advance_330 : decode cX11_advance 330 = .ok (.iconst 4, 1) := by decide +kernel
theorem dX11_advance_331 : decode cX11_advance 331 = .ok (.putfield 218, 3) := by decide +kernel
theorem dX11_advance_334 : decode cX11_advance 334 = .ok (.return_, 1) := by decide +kernel
theorem dX11_stops_0 : decode cX11_stops 0 = .ok (.aload_n 0, 1) := by decide +kernel
theorem dX11_stops_1 : decode cX11_stops 1 = .ok (.getfield 230, 3) := by decide +kernel
theorem dX11_stops_4 : decode cX11_stops 4 = .ok (.ifCond .eq 4, 3) := by decide +kernel
theorem dX11_stops_7 : decode cX11_stops 7 = .ok (.return_, 1) := by decide +kernel
theorem dX11_stops_8 : decode cX11_stops 8 = .ok (.aload_n 0, 1) := by decide +kernel
theorem dX11_stops_9 : decode cX11_stops 9 = .ok (.iconst 1, 1) := by decide +kernel
theorem dX11_stops_10 : decode cX11_stops 10 = .ok (.putfield 230, 3) := by decide +kernel
theorem dX11_stops_13 : decode cX11_stops 13 = .ok (.aload_n 0, 1) := by decide +kernel
theorem dX11_stops_14 : decode cX11_stops 14 = .ok (.getfield 7, 3) := by decide +kernel
theorem dX11_stops_17 : decode cX11_stops 17 = .ok (.bipush 12, 2) := by decide +kernel
theorem dX11_stops_19 : decode cX11_stops 19 = .ok (.iconst 1, 1) := by decide +kernel
theorem dX11_stops_20 : decode cX11_stops 20 = .ok (.iastore, 1) := by decide +kernel
theorem dX11_stops_21 : decode cX11_stops 21 = .ok (.aload_n 0, 1) := by decide +kernel
theorem dX11_stops_22 : decode cX11_stops 22 = .ok (.getfield 7, 3) := by decide +kernel
theorem dX11_stops_25 : decode cX11_stops 25 = .ok (.bipush 13, 2) := by decide +kernel
theorem dX11_stops_27 : decode cX11_stops 27 = .ok (.aload_n 0, 1) := by decide +kernel
theorem dX11_stops_28 : decode cX11_stops 28 = .ok (.getfield 215, 3) := by decide +kernel
theorem dX11_stops_31 : decode cX11_stops 31 = .ok (.iastore, 1) := by decide +kernel
theorem dX11_stops_32 : decode cX11_stops 32 = .ok (.return_, 1) := by decide +kernel
theorem dX11_isNow_0 : decode cX11_isNow 0 = .ok (.aload_n 0, 1) := by decide +kernel
theorem dX11_isNow_1 : decode cX11_isNow 1 = .ok (.getfield 230, 3) := by decide +kernel
theorem dX11_isNow_4 : decode cX11_isNow 4 = .ok (.ifCond .ne 15, 3) := by decide +kernel
theorem dX11_isNow_7 : decode cX11_isNow 7 = .ok (.aload_n 0, 1) := by decide +kernel
theorem dX11_isNow_8 : decode cX11_isNow 8 = .ok (.getfield 218, 3) := by decide +kernel
theorem dX11_isNow_11 : decode cX11_isNow 11 = .ok (.iload_n 1, 1) := by decide +kernel
theorem dX11_isNow_12 : decode cX11_isNow 12 = .ok (.if_icmp .ne 7, 3) := by decide +kernel
theorem dX11_isNow_15 : decode cX11_isNow 15 = .ok (.iconst 1, 1) := by decide +kernel
theorem dX11_isNow_16 : decode cX11_isNow 16 = .ok (.goto 4, 3) := by decide +kernel
theorem dX11_isNow_19 : decode cX11_isNow 19 = .ok (.iconst 0, 1) := by decide +kernel
theorem dX11_isNow_20 : decode cX11_isNow 20 = .ok (.ireturn, 1) := by decide +kernel
theorem dX11_takes_0 : decode cX11_takes 0 = .ok (.aload_n 0, 1) := by decide +kernel
theorem dX11_takes_1 : decode cX11_takes 1 = .ok (.iload_n 1, 1) := by decide +kernel
theorem dX11_takes_2 : decode cX11_takes 2 = .ok (.invokevirtual 234, 3) := by decide +kernel
theorem dX11_takes_5 : decode cX11_takes 5 = .ok (.ifCond .ne 5, 3) := by decide +kernel
theorem dX11_takes_8 : decode cX11_takes 8 = .ok (.iconst 0, 1) := by decide +kernel
theorem dX11_takes_9 : decode cX11_takes 9 = .ok (.ireturn, 1) := by decide +kernel
theorem dX11_takes_10 : decode cX11_takes 10 = .ok (.aload_n 0, 1) := by decide +kernel
theorem dX11_takes_11 : decode cX11_takes 11 = .ok (.invokevirtual 237, 3) := by decide +kernel
theorem dX11_takes_14 : decode cX11_takes 14 = .ok (.iconst 1, 1) := by decide +kernel
theorem dX11_takes_15 : decode cX11_takes 15 = .ok (.ireturn, 1) := by decide +kernel
theorem dX11_must_0 : decode cX11_must 0 = .ok (.aload_n 0, 1) := by decide +kernel
theorem dX11_must_1 : decode cX11_must 1 = .ok (.iload_n 1, 1) := by decide +kernel
theorem dX11_must_2 : decode cX11_must 2 = .ok (.invokevirtual 240, 3) := by decide +kernel
theorem dX11_must_5 : decode cX11_must 5 = .ok (.ifCond .ne 7, 3) := by decide +kernel
theorem dX11_must_8 : decode cX11_must 8 = .ok (.aload_n 0, 1) := by decide +kernel
theorem dX11_must_9 : decode cX11_must 9 = .ok (.invokevirtual 243, 3) := by decide +kernel
theorem dX11_must_12 : decode cX11_must 12 = .ok (.return_, 1) := by decide +kernel
theorem dX11_aNumber_0 : decode cX11_aNumber 0 = .ok (.aload_n 0, 1) := by decide +kernel
theorem dX11_aNumber_1 : decode cX11_aNumber 1 = .ok (.getfield 227, 3) := by decide +kernel
theorem dX11_aNumber_4 : decode cX11_aNumber 4 = .ok (.istore_n 1, 1) := by decide +kernel
theorem dX11_aNumber_5 : decode cX11_aNumber 5 = .ok (.aload_n 0, 1) := by decide +kernel
theorem dX11_aNumber_6 : decode cX11_aNumber 6 = .ok (.iconst 1, 1) := by decide +kernel
theorem dX11_aNumber_7 : decode cX11_aNumber 7 = .ok (.invokevirtual 246, 3) := by decide +kernel
theorem dX11_aNumber_10 : decode cX11_aNumber 10 = .ok (.iload_n 1, 1) := by decide +kernel
theorem dX11_aNumber_11 : decode cX11_aNumber 11 = .ok (.ireturn, 1) := by decide +kernel
theorem dX11_aName_0 : decode cX11_aName 0 = .ok (.aload_n 0, 1) := by decide +kernel
theorem dX11_aName_1 : decode cX11_aName 1 = .ok (.getfield 218, 3) := by decide +kernel
theorem dX11_aName_4 : decode cX11_aName 4 = .ok (.bipush 40, 2) := by decide +kernel
theorem dX11_aName_6 : decode cX11_aName 6 = .ok (.isub, 1) := by decide +kernel
theorem dX11_aName_7 : decode cX11_aName 7 = .ok (.istore_n 1, 1) := by decide +kernel
theorem dX11_aName_8 : decode cX11_aName 8 = .ok (.aload_n 0, 1) := by decide +kernel
theorem dX11_aName_9 : decode cX11_aName 9 = .ok (.getfield 230, 3) := by decide +kernel
theorem dX11_aName_12 : decode cX11_aName 12 = .ok (.ifCond .ne 19, 3) := by decide +kernel
theorem dX11_aName_15 : decode cX11_aName 15 = .ok (.iload_n 1, 1) := by decide +kernel
theorem dX11_aName_16 : decode cX11_aName 16 = .ok (.iconst 0, 1) := by decide +kernel
theorem dX11_aName_17 : decode cX11_aName 17 = .ok (.iconst 5, 1) := by decide +kernel
theorem dX11_aName_18 : decode cX11_aName 18 = .ok (.invokestatic 67, 3) := by decide +kernel
theorem dX11_aName_21 : decode cX11_aName 21 = .ok (.ifCond .eq 10, 3) := by decide +kernel
theorem dX11_aName_24 : decode cX11_aName 24 = .ok (.aload_n 0, 1) := by decide +kernel
theorem dX11_aName_25 : decode cX11_aName 25 = .ok (.invokevirtual 237, 3) := by decide +kernel
theorem dX11_aName_28 : decode cX11_aName 28 = .ok (.goto 7, 3) := by decide +kernel
theorem dX11_aName_31 : decode cX11_aName 31 = .ok (.aload_n 0, 1) := by decide +kernel
theorem dX11_aName_32 : decode cX11_aName 32 = .ok (.invokevirtual 243, 3) := by decide +kernel
theorem dX11_aName_35 : decode cX11_aName 35 = .ok (.iload_n 1, 1) := by decide +kernel
theorem dX11_aName_36 : decode cX11_aName 36 = .ok (.ireturn, 1) := by decide +kernel
theorem dX11_aThing_0 : decode cX11_aThing 0 = .ok (.aload_n 0, 1) := by decide +kernel
theorem dX11_aThing_1 : decode cX11_aThing 1 = .ok (.getfield 218, 3) := by decide +kernel
theorem dX11_aThing_4 : decode cX11_aThing 4 = .ok (.bipush 50, 2) := by decide +kernel
theorem dX11_aThing_6 : decode cX11_aThing 6 = .ok (.isub, 1) := by decide +kernel
theorem dX11_aThing_7 : decode cX11_aThing 7 = .ok (.istore_n 1, 1) := by decide +kernel
theorem dX11_aThing_8 : decode cX11_aThing 8 = .ok (.aload_n 0, 1) := by decide +kernel
theorem dX11_aThing_9 : decode cX11_aThing 9 = .ok (.getfield 230, 3) := by decide +kernel
theorem dX11_aThing_12 : decode cX11_aThing 12 = .ok (.ifCond .ne 19, 3) := by decide +kernel
theorem dX11_aThing_15 : decode cX11_aThing 15 = .ok (.iload_n 1, 1) := by decide +kernel
theorem dX11_aThing_16 : decode cX11_aThing 16 = .ok (.iconst 0, 1) := by decide +kernel
theorem dX11_aThing_17 : decode cX11_aThing 17 = .ok (.iconst 5, 1) := by decide +kernel
theorem dX11_aThing_18 : decode cX11_aThing 18 = .ok (.invokestatic 67, 3) := by decide +kernel
theorem dX11_aThing_21 : decode cX11_aThing 21 = .ok (.ifCond .eq 10, 3) := by decide +kernel
theorem dX11_aThing_24 : decode cX11_aThing 24 = .ok (.aload_n 0, 1) := by decide +kernel
theorem dX11_aThing_25 : decode cX11_aThing 25 = .ok (.invokevirtual 237, 3) := by decide +kernel
theorem dX11_aThing_28 : decode cX11_aThing 28 = .ok (.goto 7, 3) := by decide +kernel
theorem dX11_aThing_31 : decode cX11_aThing 31 = .ok (.aload_n 0, 1) := by decide +kernel
theorem dX11_aThing_32 : decode cX11_aThing 32 = .ok (.invokevirtual 243, 3) := by decide +kernel
theorem dX11_aThing_35 : decode cX11_aThing 35 = .ok (.iload_n 1, 1) := by decide +kernel
theorem dX11_aThing_36 : decode cX11_aThing 36 = .ok (.ireturn, 1) := by decide +kernel
theorem dX11_keeps_0 : decode cX11_keeps 0 = .ok (.iconst 5, 1) := by decide +kernel
theorem dX11_keeps_1 : decode cX11_keeps 1 = .ok (.aload_n 0, 1) := by decide +kernel
theorem dX11_keeps_2 : decode cX11_keeps 2 = .ok (.getfield 249, 3) := by decide +kernel
theorem dX11_keeps_5 : decode cX11_keeps 5 = .ok (.bipush 6, 2) := by decide +kernel
theorem dX11_keeps_7 : decode cX11_keeps 7 = .ok (.if_icmp .ge 10, 3) := by decide +kernel
theorem dX11_keeps_10 : decode cX11_keeps 10 = .ok (.aload_n 0, 1) := by decide +kernel
theorem dX11_keeps_11 : decode cX11_keeps 11 = .ok (.getfield 249, 3) := by decide +kernel
theorem dX11_keeps_14 : decode cX11_keeps 14 = .ok (.goto 5, 3) := by decide +kernel
theorem dX11_keeps_17 : decode cX11_keeps 17 = .ok (.bipush 6, 2) := by decide +kernel
theorem dX11_keeps_19 : decode cX11_keeps 19 = .ok (.imul, 1) := by decide +kernel
theorem dX11_keeps_20 : decode cX11_keeps 20 = .ok (.istore 6, 2) := by decide +kernel
theorem dX11_keeps_22 : decode cX11_keeps 22 = .ok (.aload_n 0, 1) := by decide +kernel
theorem dX11_keeps_23 : decode cX11_keeps 23 = .ok (.getfield 24, 3) := by decide +kernel
theorem dX11_keeps_26 : decode cX11_keeps 26 = .ok (.iload 6, 2) := by decide +kernel
theorem dX11_keeps_28 : decode cX11_keeps 28 = .ok (.iload_n 1, 1) := by decide +kernel
theorem dX11_keeps_29 : decode cX11_keeps 29 = .ok (.iastore, 1) := by decide +kernel
theorem dX11_keeps_30 : decode cX11_keeps 30 = .ok (.aload_n 0, 1) := by decide +kernel
theorem dX11_keeps_31 : decode cX11_keeps 31 = .ok (.getfield 24, 3) := by decide +kernel
theorem dX11_keeps_34 : decode cX11_keeps 34 = .ok (.iload 6, 2) := by decide +kernel
theorem dX11_keeps_36 : decode cX11_keeps 36 = .ok (.iconst 1, 1) := by decide +kernel
theorem dX11_keeps_37 : decode cX11_keeps 37 = .ok (.iadd, 1) := by decide +kernel
theorem dX11_keeps_38 : decode cX11_keeps 38 = .ok (.iload_n 2, 1) := by decide +kernel
theorem dX11_keeps_39 : decode cX11_keeps 39 = .ok (.iastore, 1) := by decide +kernel
theorem dX11_keeps_40 : decode cX11_keeps 40 = .ok (.aload_n 0, 1) := by decide +kernel
theorem dX11_keeps_41 : decode cX11_keeps 41 = .ok (.getfield 24, 3) := by decide +kernel
theorem dX11_keeps_44 : decode cX11_keeps 44 = .ok (.iload 6, 2) := by decide +kernel
theorem dX11_keeps_46 : decode cX11_keeps 46 = .ok (.iconst 2, 1) := by decide +kernel
theorem dX11_keeps_47 : decode cX11_keeps 47 = .ok (.iadd, 1) := by decide +kernel
theorem dX11_keeps_48 : decode cX11_keeps 48 = .ok (.iload_n 3, 1) := by decide +kernel
theorem dX11_keeps_49 : decode cX11_keeps 49 = .ok (.iastore, 1) := by decide +kernel
theorem dX11_keeps_50 : decode cX11_keeps 50 = .ok (.aload_n 0, 1) := by decide +kernel
theorem dX11_keeps_51 : decode cX11_keeps 51 = .ok (.getfield 24, 3) := by decide +kernel
theorem dX11_keeps_54 : decode cX11_keeps 54 = .ok (.iload 6, 2) := by decide +kernel
theorem dX11_keeps_56 : decode cX11_keeps 56 = .ok (.iconst 3, 1) := by decide +kernel
theorem dX11_keeps_57 : decode cX11_keeps 57 = .ok (.iadd, 1) := by decide +kernel
theorem dX11_keeps_58 : decode cX11_keeps 58 = .ok (.iload 4, 2) := by decide +kernel
theorem dX11_keeps_60 : decode cX11_keeps 60 = .ok (.iastore, 1) := by decide +kernel
theorem dX11_keeps_61 : decode cX11_keeps 61 = .ok (.aload_n 0, 1) := by decide +kernel
theorem dX11_keeps_62 : decode cX11_keeps 62 = .ok (.getfield 24, 3) := by decide +kernel
theorem dX11_keeps_65 : decode cX11_keeps 65 = .ok (.iload 6, 2) := by decide +kernel
theorem dX11_keeps_67 : decode cX11_keeps 67 = .ok (.iconst 4, 1) := by decide +kernel
theorem dX11_keeps_68 : decode cX11_keeps 68 = .ok (.iadd, 1) := by decide +kernel
theorem dX11_keeps_69 : decode cX11_keeps 69 = .ok (.iload 5, 2) := by decide +kernel
theorem dX11_keeps_71 : decode cX11_keeps 71 = .ok (.iastore, 1) := by decide +kernel
theorem dX11_keeps_72 : decode cX11_keeps 72 = .ok (.return_, 1) := by decide +kernel
theorem dX11_fAt_0 : decode cX11_fAt 0 = .ok (.aload_n 0, 1) := by decide +kernel
theorem dX11_fAt_1 : decode cX11_fAt 1 = .ok (.bipush 17, 2) := by decide +kernel
theorem dX11_fAt_3 : decode cX11_fAt 3 = .ok (.invokevirtual 246, 3) := by decide +kernel
theorem dX11_fAt_6 : decode cX11_fAt 6 = .ok (.aload_n 0, 1) := by decide +kernel
theorem dX11_fAt_7 : decode cX11_fAt 7 = .ok (.bipush 18, 2) := by decide +kernel
theorem dX11_fAt_9 : decode cX11_fAt 9 = .ok (.invokevirtual 246, 3) := by decide +kernel
theorem dX11_fAt_12 : decode cX11_fAt 12 = .ok (.aload_n 0, 1) := by decide +kernel
theorem dX11_fAt_13 : decode cX11_fAt 13 = .ok (.bipush 19, 2) := by decide +kernel
theorem dX11_fAt_15 : decode cX11_fAt 15 = .ok (.invokevirtual 246, 3) := by decide +kernel
theorem dX11_fAt_18 : decode cX11_fAt 18 = .ok (.aload_n 0, 1) := by decide +kernel
theorem dX11_fAt_19 : decode cX11_fAt 19 = .ok (.bipush 20, 2) := by decide +kernel
theorem dX11_fAt_21 : decode cX11_fAt 21 = .ok (.invokevirtual 246, 3) := by decide +kernel
theorem dX11_fAt_24 : decode cX11_fAt 24 = .ok (.aload_n 0, 1) := by decide +kernel
theorem dX11_fAt_25 : decode cX11_fAt 25 = .ok (.invokevirtual 252, 3) := by decide +kernel
theorem dX11_fAt_28 : decode cX11_fAt 28 = .ok (.istore_n 1, 1) := by decide +kernel
theorem dX11_fAt_29 : decode cX11_fAt 29 = .ok (.aload_n 0, 1) := by decide +kernel
theorem dX11_fAt_30 : decode cX11_fAt 30 = .ok (.iconst 5, 1) := by decide +kernel
theorem dX11_fAt_31 : decode cX11_fAt 31 = .ok (.iconst (-1), 1) := by decide +kernel
theorem dX11_fAt_32 : decode cX11_fAt 32 = .ok (.iconst (-1), 1) := by decide +kernel
theorem dX11_fAt_33 : decode cX11_fAt 33 = .ok (.aload_n 0, 1) := by decide +kernel
theorem dX11_fAt_34 : decode cX11_fAt 34 = .ok (.invokevirtual 255, 3) := by decide +kernel
theorem dX11_fAt_37 : decode cX11_fAt 37 = .ok (.iload_n 1, 1) := by decide +kernel
theorem dX11_fAt_38 : decode cX11_fAt 38 = .ok (.invokevirtual 258, 3) := by decide +kernel
theorem dX11_fAt_41 : decode cX11_fAt 41 = .ok (.return_, 1) := by decide +kernel
theorem dX11_hasAt_0 : decode cX11_hasAt 0 = .ok (.aload_n 0, 1) := by decide +kernel
theorem dX11_hasAt_1 : decode cX11_hasAt 1 = .ok (.invokevirtual 252, 3) := by decide +kernel
theorem dX11_hasAt_4 : decode cX11_hasAt 4 = .ok (.istore_n 2, 1) := by decide +kernel
theorem dX11_hasAt_5 : decode cX11_hasAt 5 = .ok (.aload_n 0, 1) := by decide +kernel
theorem dX11_hasAt_6 : decode cX11_hasAt 6 = .ok (.bipush 11, 2) := by decide +kernel
theorem dX11_hasAt_8 : decode cX11_hasAt 8 = .ok (.invokevirtual 240, 3) := by decide +kernel
theorem dX11_hasAt_11 : decode cX11_hasAt 11 = .ok (.ifCond .eq 13, 3) := by decide +kernel
theorem dX11_hasAt_14 : decode cX11_hasAt 14 = .ok (.aload_n 0, 1) := by decide +kernel
theorem dX11_hasAt_15 : decode cX11_hasAt 15 = .ok (.iconst 1, 1) := by decide +kernel
theorem dX11_hasAt_16 : decode cX11_hasAt 16 = .ok (.iload_n 1, 1) := by decide +kernel
theorem dX11_hasAt_17 : decode cX11_hasAt 17 = .ok (.iconst (-1), 1) := by decide +kernel
theorem dX11_hasAt_18 : decode cX11_hasAt 18 = .ok (.iconst (-1), 1) := by decide +kernel
theorem dX11_hasAt_19 : decode cX11_hasAt 19 = .ok (.iload_n 2, 1) := by decide +kernel
theorem dX11_hasAt_20 : decode cX11_hasAt 20 = .ok (.invokevirtual 258, 3) := by decide +kernel
theorem dX11_hasAt_23 : decode cX11_hasAt 23 = .ok (.return_, 1) := by decide +kernel
theorem dX11_hasAt_24 : decode cX11_hasAt 24 = .ok (.aload_n 0, 1) := by decide +kernel
theorem dX11_hasAt_25 : decode cX11_hasAt 25 = .ok (.invokevirtual 255, 3) := by decide +kernel
theorem dX11_hasAt_28 : decode cX11_hasAt 28 = .ok (.istore_n 3, 1) := by decide +kernel
theorem dX11_hasAt_29 : decode cX11_hasAt 29 = .ok (.aload_n 0, 1) := by decide +kernel
theorem dX11_hasAt_30 : decode cX11_hasAt 30 = .ok (.bipush 21, 2) := by decide +kernel
theorem dX11_hasAt_32 : decode cX11_hasAt 32 = .ok (.invokevirtual 240, 3) := by decide +kernel
theorem dX11_hasAt_35 : decode cX11_hasAt 35 = .ok (.ifCond .eq 25, 3) := by decide +kernel
theorem dX11_hasAt_38 : decode cX11_hasAt 38 = .ok (.aload_n 0, 1) := by decide +kernel
theorem dX11_hasAt_39 : decode cX11_hasAt 39 = .ok (.bipush 22, 2) := by decide +kernel
theorem dX11_hasAt_41 : decode cX11_hasAt 41 = .ok (.invokevirtual 246, 3) := by decide +kernel
theorem dX11_hasAt_44 : decode cX11_hasAt 44 = .ok (.aload_n 0, 1) := by decide +kernel
theorem dX11_hasAt_45 : decode cX11_hasAt 45 = .ok (.bipush 6, 2) := by decide +kernel
theorem dX11_hasAt_47 : decode cX11_hasAt 47 = .ok (.iload_n 1, 1) := by decide +kernel
theorem dX11_hasAt_48 : decode cX11_hasAt 48 = .ok (.aload_n 0, 1) := by decide +kernel
theorem dX11_hasAt_49 : decode cX11_hasAt 49 = .ok (.invokevirtual 261, 3) := by decide +kernel
theorem dX11_hasAt_52 : decode cX11_hasAt 52 = .ok (.iload_n 3, 1) := by decide +kernel
theorem dX11_hasAt_53 : decode cX11_hasAt 53 = .ok (.iload_n 2, 1) := by decide +kernel
theorem dX11_hasAt_54 : decode cX11_hasAt 54 = .ok (.invokevirtual 258, 3) := by decide +kernel
theorem dX11_hasAt_57 : decode cX11_hasAt 57 = .ok (.goto 12, 3) := by decide +kernel
theorem dX11_hasAt_60 : decode cX11_hasAt 60 = .ok (.aload_n 0, 1) := by decide +kernel
theorem dX11_hasAt_61 : decode cX11_hasAt 61 = .ok (.iconst 0, 1) := by decide +kernel
theorem dX11_hasAt_62 : decode cX11_hasAt 62 = .ok (.iload_n 1, 1) := by decide +kernel
theorem dX11_hasAt_63 : decode cX11_hasAt 63 = .ok (.iconst (-1), 1) := by decide +kernel
theorem dX11_hasAt_64 : decode cX11_hasAt 64 = .ok (.iload_n 3, 1) := by decide +kernel
theorem dX11_hasAt_65 : decode cX11_hasAt 65 = .ok (.iload_n 2, 1) := by decide +kernel
theorem dX11_hasAt_66 : decode cX11_hasAt 66 = .ok (.invokevirtual 258, 3) := by decide +kernel
theorem dX11_hasAt_69 : decode cX11_hasAt 69 = .ok (.return_, 1) := by decide +kernel
theorem dX11_namedAt_0 : decode cX11_namedAt 0 = .ok (.aload_n 0, 1) := by decide +kernel
theorem dX11_namedAt_1 : decode cX11_namedAt 1 = .ok (.invokevirtual 261, 3) := by decide +kernel
theorem dX11_namedAt_4 : decode cX11_namedAt 4 = .ok (.istore_n 1, 1) := by decide +kernel
theorem dX11_namedAt_5 : decode cX11_namedAt 5 = .ok (.aload_n 0, 1) := by decide +kernel
theorem dX11_namedAt_6 : decode cX11_namedAt 6 = .ok (.bipush 10, 2) := by decide +kernel
theorem dX11_namedAt_8 : decode cX11_namedAt 8 = .ok (.invokevirtual 240, 3) := by decide +kernel
theorem dX11_namedAt_11 : decode cX11_namedAt 11 = .ok (.ifCond .eq 11, 3) := by decide +kernel
theorem dX11_namedAt_14 : decode cX11_namedAt 14 = .ok (.aload_n 0, 1) := by decide +kernel
theorem dX11_namedAt_15 : decode cX11_namedAt 15 = .ok (.iload_n 1, 1) := by decide +kernel
theorem dX11_namedAt_16 : decode cX11_namedAt 16 = .ok (.invokevirtual 264, 3) := by decide +kernel
theorem dX11_namedAt_19 : decode cX11_namedAt 19 = .ok (.goto 98, 3) := by decide +kernel
theorem dX11_namedAt_22 : decode cX11_namedAt 22 = .ok (.aload_n 0, 1) := by decide +kernel
theorem dX11_namedAt_23 : decode cX11_namedAt 23 = .ok (.bipush 12, 2) := by decide +kernel
theorem dX11_namedAt_25 : decode cX11_namedAt 25 = .ok (.invokevirtual 234, 3) := by decide +kernel
theorem dX11_namedAt_28 : decode cX11_namedAt 28 = .ok (.ifCond .ne 12, 3) := by decide +kernel
theorem dX11_namedAt_31 : decode cX11_namedAt 31 = .ok (.aload_n 0, 1) := by decide +kernel
theorem dX11_namedAt_32 : decode cX11_namedAt 32 = .ok (.bipush 13, 2) := by decide +kernel
theorem dX11_namedAt_34 : decode cX11_namedAt 34 = .ok (.invokevirtual 234, 3) := by decide +kernel
theorem dX11_namedAt_37 : decode cX11_namedAt 37 = .ok (.ifCond .eq 42, 3) := by decide +kernel
theorem dX11_namedAt_40 : decode cX11_namedAt 40 = .ok (.aload_n 0, 1) := by decide +kernel
theorem dX11_namedAt_41 : decode cX11_namedAt 41 = .ok (.getfield 218, 3) := by decide +kernel
theorem dX11_namedAt_44 : decode cX11_namedAt 44 = .ok (.bipush 12, 2) := by decide +kernel
theorem dX11_namedAt_46 : decode cX11_namedAt 46 = .ok (.if_icmp .ne 7, 3) := by decide +kernel
theorem dX11_namedAt_49 : decode cX11_namedAt 49 = .ok (.iconst 2, 1) := by decide +kernel
theorem dX11_namedAt_50 : decode cX11_namedAt 50 = .ok (.goto 4, 3) := by decide +kernel
theorem dX11_namedAt_53 : decode cX11_namedAt 53 = .ok (.iconst 3, 1) := by decide +kernel
theorem dX11_namedAt_54 : decode cX11_namedAt 54 = .ok (.istore_n 2, 1) := by decide +kernel
theorem dX11_namedAt_55 : decode cX11_namedAt 55 = .ok (.aload_n 0, 1) := by decide +kernel
theorem dX11_namedAt_56 : decode cX11_namedAt 56 = .ok (.invokevirtual 237, 3) := by decide +kernel
theorem dX11_namedAt_59 : decode cX11_namedAt 59 = .ok (.aload_n 0, 1) := by decide +kernel
theorem dX11_namedAt_60 : decode cX11_namedAt 60 = .ok (.invokevirtual 252, 3) := by decide +kernel
theorem dX11_namedAt_63 : decode cX11_namedAt 63 = .ok (.istore_n 3, 1) := by decide +kernel
theorem dX11_namedAt_64 : decode cX11_namedAt 64 = .ok (.aload_n 0, 1) := by decide +kernel
theorem dX11_namedAt_65 : decode cX11_namedAt 65 = .ok (.iload_n 2, 1) := by decide +kernel
theorem dX11_namedAt_66 : decode cX11_namedAt 66 = .ok (.iload_n 1, 1) := by decide +kernel
theorem dX11_namedAt_67 : decode cX11_namedAt 67 = .ok (.iconst (-1), 1) := by decide +kernel
theorem dX11_namedAt_68 : decode cX11_namedAt 68 = .ok (.aload_n 0, 1) := by decide +kernel
theorem dX11_namedAt_69 : decode cX11_namedAt 69 = .ok (.invokevirtual 255, 3) := by decide +kernel
theorem dX11_namedAt_72 : decode cX11_namedAt 72 = .ok (.iload_n 3, 1) := by decide +kernel
theorem dX11_namedAt_73 : decode cX11_namedAt 73 = .ok (.invokevirtual 258, 3) := by decide +kernel
theorem dX11_namedAt_76 : decode cX11_namedAt 76 = .ok (.goto 41, 3) := by decide +kernel
theorem dX11_namedAt_79 : decode cX11_namedAt 79 = .ok (.aload_n 0, 1) := by decide +kernel
theorem dX11_namedAt_80 : decode cX11_namedAt 80 = .ok (.bipush 14, 2) := by decide +kernel
theorem dX11_namedAt_82 : decode cX11_namedAt 82 = .ok (.invokevirtual 246, 3) := by decide +kernel
theorem dX11_namedAt_85 : decode cX11_namedAt 85 = .ok (.aload_n 0, 1) := by decide +kernel
theorem dX11_namedAt_86 : decode cX11_namedAt 86 = .ok (.bipush 15, 2) := by decide +kernel
theorem dX11_namedAt_88 : decode cX11_namedAt 88 = .ok (.invokevirtual 246, 3) := by decide +kernel
theorem dX11_namedAt_91 : decode cX11_namedAt 91 = .ok (.aload_n 0, 1) := by decide +kernel
theorem dX11_namedAt_92 : decode cX11_namedAt 92 = .ok (.bipush 16, 2) := by decide +kernel
theorem dX11_namedAt_94 : decode cX11_namedAt 94 = .ok (.invokevirtual 246, 3) := by decide +kernel
theorem dX11_namedAt_97 : decode cX11_namedAt 97 = .ok (.aload_n 0, 1) := by decide +kernel
theorem dX11_namedAt_98 : decode cX11_namedAt 98 = .ok (.invokevirtual 252, 3) := by decide +kernel
theorem dX11_namedAt_101 : decode cX11_namedAt 101 = .ok (.istore_n 2, 1) := by decide +kernel
theorem dX11_namedAt_102 : decode cX11_namedAt 102 = .ok (.aload_n 0, 1) := by decide +kernel
theorem dX11_namedAt_103 : decode cX11_namedAt 103 = .ok (.bipush 11, 2) := by decide +kernel
theorem dX11_namedAt_105 : decode cX11_namedAt 105 = .ok (.invokevirtual 246, 3) := by decide +kernel
theorem dX11_namedAt_108 : decode cX11_namedAt 108 = .ok (.aload_n 0, 1) := by decide +kernel
theorem dX11_namedAt_109 : decode cX11_namedAt 109 = .ok (.iconst 4, 1) := by decide +kernel
theorem dX11_namedAt_110 : decode cX11_namedAt 110 = .ok (.iload_n 1, 1) := by decide +kernel
theorem dX11_namedAt_111 : decode cX11_namedAt 111 = .ok (.iconst (-1), 1) := by decide +kernel
theorem dX11_namedAt_112 : decode cX11_namedAt 112 = .ok (.iconst (-1), 1) := by decide +kernel
theorem dX11_namedAt_113 : decode cX11_namedAt 113 = .ok (.iload_n 2, 1) := by decide +kernel
theorem dX11_namedAt_114 : decode cX11_namedAt 114 = .ok (.invokevirtual 258, 3) := by decide +kernel
theorem dX11_namedAt_117 : decode cX11_namedAt 117 = .ok (.return_, 1) := by decide +kernel
theorem dX11_aSentence_0 : decode cX11_aSentence 0 = .ok (.aload_n 0, 1) := by decide +kernel
theorem dX11_aSentence_1 : decode cX11_aSentence 1 = .ok (.bipush 17, 2) := by decide +kernel
theorem dX11_aSentence_3 : decode cX11_aSentence 3 = .ok (.invokevirtual 234, 3) := by decide +kernel
theorem dX11_aSentence_6 : decode cX11_aSentence 6 = .ok (.ifCond .eq 10, 3) := by decide +kernel
theorem dX11_aSentence_9 : decode cX11_aSentence 9 = .ok (.aload_n 0, 1) := by decide +kernel
theorem dX11_aSentence_10 : decode cX11_aSentence 10 = .ok (.invokevirtual 267, 3) := by decide +kernel
theorem dX11_aSentence_13 : decode cX11_aSentence 13 = .ok (.goto 48, 3) := by decide +kernel
theorem dX11_aSentence_16 : decode cX11_aSentence 16 = .ok (.aload_n 0, 1) := by decide +kernel
theorem dX11_aSentence_17 : decode cX11_aSentence 17 = .ok (.bipush 23, 2) := by decide +kernel
theorem dX11_aSentence_19 : decode cX11_aSentence 19 = .ok (.invokevirtual 240, 3) := by decide +kernel
theorem dX11_aSentence_22 : decode cX11_aSentence 22 = .ok (.ifCond .eq 35, 3) := by decide +kernel
theorem dX11_aSentence_25 : decode cX11_aSentence 25 = .ok (.aload_n 0, 1) := by decide +kernel
theorem dX11_aSentence_26 : decode cX11_aSentence 26 = .ok (.invokevirtual 261, 3) := by decide +kernel
theorem dX11_aSentence_29 : decode cX11_aSentence 29 = .ok (.istore_n 1, 1) := by decide +kernel
theorem dX11_aSentence_30 : decode cX11_aSentence 30 = .ok (.aload_n 0, 1) := by decide +kernel
theorem dX11_aSentence_31 : decode cX11_aSentence 31 = .ok (.bipush 10, 2) := by decide +kernel
theorem dX11_aSentence_33 : decode cX11_aSentence 33 = .ok (.invokevirtual 246, 3) := by decide +kernel
theorem dX11_aSentence_36 : decode cX11_aSentence 36 = .ok (.aload_n 0, 1) := by decide +kernel
theorem dX11_aSentence_37 : decode cX11_aSentence 37 = .ok (.invokevirtual 252, 3) := by decide +kernel
theorem dX11_aSentence_40 : decode cX11_aSentence 40 = .ok (.istore_n 2, 1) := by decide +kernel
theorem dX11_aSentence_41 : decode cX11_aSentence 41 = .ok (.aload_n 0, 1) := by decide +kernel
theorem dX11_aSentence_42 : decode cX11_aSentence 42 = .ok (.bipush 7, 2) := by decide +kernel
theorem dX11_aSentence_44 : decode cX11_aSentence 44 = .ok (.iload_n 1, 1) := by decide +kernel
theorem dX11_aSentence_45 : decode cX11_aSentence 45 = .ok (.iconst (-1), 1) := by decide +kernel
theorem dX11_aSentence_46 : decode cX11_aSentence 46 = .ok (.aload_n 0, 1) := by decide +kernel
theorem dX11_aSentence_47 : decode cX11_aSentence 47 = .ok (.invokevirtual 255, 3) := by decide +kernel
theorem dX11_aSentence_50 : decode cX11_aSentence 50 = .ok (.iload_n 2, 1) := by decide +kernel
theorem dX11_aSentence_51 : decode cX11_aSentence 51 = .ok (.invokevirtual 258, 3) := by decide +kernel
theorem dX11_aSentence_54 : decode cX11_aSentence 54 = .ok (.goto 7, 3) := by decide +kernel
theorem dX11_aSentence_57 : decode cX11_aSentence 57 = .ok (.aload_n 0, 1) := by decide +kernel
theorem dX11_aSentence_58 : decode cX11_aSentence 58 = .ok (.invokevirtual 270, 3) := by decide +kernel
theorem dX11_aSentence_61 : decode cX11_aSentence 61 = .ok (.aload_n 0, 1) := by decide +kernel
theorem dX11_aSentence_62 : decode cX11_aSentence 62 = .ok (.iconst 2, 1) := by decide +kernel
theorem dX11_aSentence_63 : decode cX11_aSentence 63 = .ok (.invokevirtual 246, 3) := by decide +kernel
theorem dX11_aSentence_66 : decode cX11_aSentence 66 = .ok (.aload_n 0, 1) := by decide +kernel
theorem dX11_aSentence_67 : decode cX11_aSentence 67 = .ok (.dup, 1) := by decide +kernel
theorem dX11_aSentence_68 : decode cX11_aSentence 68 = .ok (.getfield 249, 3) := by decide +kernel
theorem dX11_aSentence_71 : decode cX11_aSentence 71 = .ok (.iconst 1, 1) := by decide +kernel
theorem dX11_aSentence_72 : decode cX11_aSentence 72 = .ok (.iadd, 1) := by decide +kernel
theorem dX11_aSentence_73 : decode cX11_aSentence 73 = .ok (.putfield 249, 3) := by decide +kernel
theorem dX11_aSentence_76 : decode cX11_aSentence 76 = .ok (.return_, 1) := by decide +kernel
theorem dX11_aQuestion_0 : decode cX11_aQuestion 0 = .ok (.aload_n 0, 1) := by decide +kernel
theorem dX11_aQuestion_1 : decode cX11_aQuestion 1 = .ok (.aload_n 0, 1) := by decide +kernel
theorem dX11_aQuestion_2 : decode cX11_aQuestion 2 = .ok (.getfield 215, 3) := by decide +kernel
theorem dX11_aQuestion_5 : decode cX11_aQuestion 5 = .ok (.putfield 273, 3) := by decide +kernel
theorem dX11_aQuestion_8 : decode cX11_aQuestion 8 = .ok (.aload_n 0, 1) := by decide +kernel
theorem dX11_aQuestion_9 : decode cX11_aQuestion 9 = .ok (.bipush 24, 2) := by decide +kernel
theorem dX11_aQuestion_11 : decode cX11_aQuestion 11 = .ok (.invokevirtual 246, 3) := by decide +kernel
theorem dX11_aQuestion_14 : decode cX11_aQuestion 14 = .ok (.aload_n 0, 1) := by decide +kernel
theorem dX11_aQuestion_15 : decode cX11_aQuestion 15 = .ok (.bipush 25, 2) := by decide +kernel
theorem dX11_aQuestion_17 : decode cX11_aQuestion 17 = .ok (.invokevirtual 246, 3) := by decide +kernel
theorem dX11_aQuestion_20 : decode cX11_aQuestion 20 = .ok (.aload_n 0, 1) := by decide +kernel
theorem dX11_aQuestion_21 : decode cX11_aQuestion 21 = .ok (.invokevirtual 255, 3) := by decide +kernel
theorem dX11_aQuestion_24 : decode cX11_aQuestion 24 = .ok (.istore_n 1, 1) := by decide +kernel
theorem dX11_aQuestion_25 : decode cX11_aQuestion 25 = .ok (.bipush 8, 2) := by decide +kernel
theorem dX11_aQuestion_27 : decode cX11_aQuestion 27 = .ok (.istore_n 2, 1) := by decide +kernel
theorem dX11_aQuestion_28 : decode cX11_aQuestion 28 = .ok (.iconst (-1), 1) := by decide +kernel
theorem dX11_aQuestion_29 : decode cX11_aQuestion 29 = .ok (.istore_n 3, 1) := by decide +kernel
theorem dX11_aQuestion_30 : decode cX11_aQuestion 30 = .ok (.aload_n 0, 1) := by decide +kernel
theorem dX11_aQuestion_31 : decode cX11_aQuestion 31 = .ok (.bipush 10, 2) := by decide +kernel
theorem dX11_aQuestion_33 : decode cX11_aQuestion 33 = .ok (.invokevirtual 240, 3) := by decide +kernel
theorem dX11_aQuestion_36 : decode cX11_aQuestion 36 = .ok (.ifCond .eq 11, 3) := by decide +kernel
theorem dX11_aQuestion_39 : decode cX11_aQuestion 39 = .ok (.aload_n 0, 1) := by decide +kernel
theorem dX11_aQuestion_40 : decode cX11_aQuestion 40 = .ok (.invokevirtual 261, 3) := by decide +kernel
theorem dX11_aQuestion_43 : decode cX11_aQuestion 43 = .ok (.istore_n 3, 1) := by decide +kernel
theorem dX11_aQuestion_44 : decode cX11_aQuestion 44 = .ok (.goto 71, 3) := by decide +kernel
theorem dX11_aQuestion_47 : decode cX11_aQuestion 47 = .ok (.aload_n 0, 1) := by decide +kernel
theorem dX11_aQuestion_48 : decode cX11_aQuestion 48 = .ok (.bipush 28, 2) := by decide +kernel
theorem dX11_aQuestion_50 : decode cX11_aQuestion 50 = .ok (.invokevirtual 240, 3) := by decide +kernel
theorem dX11_aQuestion_53 : decode cX11_aQuestion 53 = .ok (.ifCond .eq 14, 3) := by decide +kernel
theorem dX11_aQuestion_56 : decode cX11_aQuestion 56 = .ok (.bipush 11, 2) := by decide +kernel
theorem dX11_aQuestion_58 : decode cX11_aQuestion 58 = .ok (.istore_n 2, 1) := by decide +kernel
theorem dX11_aQuestion_59 : decode cX11_aQuestion 59 = .ok (.aload_n 0, 1) := by decide +kernel
theorem dX11_aQuestion_60 : decode cX11_aQuestion 60 = .ok (.invokevirtual 261, 3) := by decide +kernel
theorem dX11_aQuestion_63 : decode cX11_aQuestion 63 = .ok (.istore_n 3, 1) := by decide +kernel
theorem dX11_aQuestion_64 : decode cX11_aQuestion 64 = .ok (.goto 51, 3) := by decide +kernel
theorem dX11_aQuestion_67 : decode cX11_aQuestion 67 = .ok (.aload_n 0, 1) := by decide +kernel
theorem dX11_aQuestion_68 : decode cX11_aQuestion 68 = .ok (.bipush 26, 2) := by decide +kernel
theorem dX11_aQuestion_70 : decode cX11_aQuestion 70 = .ok (.invokevirtual 240, 3) := by decide +kernel
theorem dX11_aQuestion_73 : decode cX11_aQuestion 73 = .ok (.ifCond .eq 15, 3) := by decide +kernel
theorem dX11_aQuestion_76 : decode cX11_aQuestion 76 = .ok (.bipush 10, 2) := by decide +kernel
theorem dX11_aQuestion_78 : decode cX11_aQuestion 78 = .ok (.istore_n 2, 1) := by decide +kernel
theorem dX11_aQuestion_79 : decode cX11_aQuestion 79 = .ok (.aload_n 0, 1) := by decide +kernel
theorem dX11_aQuestion_80 : decode cX11_aQuestion 80 = .ok (.bipush 27, 2) := by decide +kernel
theorem dX11_aQuestion_82 : decode cX11_aQuestion 82 = .ok (.invokevirtual 246, 3) := by decide +kernel
theorem dX11_aQuestion_85 : decode cX11_aQuestion 85 = .ok (.goto 30, 3) := by decide +kernel
theorem dX11_aQuestion_88 : decode cX11_aQuestion 88 = .ok (.bipush 9, 2) := by decide +kernel
theorem dX11_aQuestion_90 : decode cX11_aQuestion 90 = .ok (.istore_n 2, 1) := by decide +kernel
theorem dX11_aQuestion_91 : decode cX11_aQuestion 91 = .ok (.aload_n 0, 1) := by decide +kernel
theorem dX11_aQuestion_92 : decode cX11_aQuestion 92 = .ok (.bipush 20, 2) := by decide +kernel
theorem dX11_aQuestion_94 : decode cX11_aQuestion 94 = .ok (.invokevirtual 246, 3) := by decide +kernel
theorem dX11_aQuestion_97 : decode cX11_aQuestion 97 = .ok (.aload_n 0, 1) := by decide +kernel
theorem dX11_aQuestion_98 : decode cX11_aQuestion 98 = .ok (.bipush 17, 2) := by decide +kernel
theorem dX11_aQuestion_100 : decode cX11_aQuestion 100 = .ok (.invokevirtual 246, 3) := by decide +kernel
theorem dX11_aQuestion_103 : decode cX11_aQuestion 103 = .ok (.aload_n 0, 1) := by decide +kernel
theorem dX11_aQuestion_104 : decode cX11_aQuestion 104 = .ok (.bipush 18, 2) := by decide +kernel
theorem dX11_aQuestion_106 : decode cX11_aQuestion 106 = .ok (.invokevirtual 246, 3) := by decide +kernel
theorem dX11_aQuestion_109 : decode cX11_aQuestion 109 = .ok (.aload_n 0, 1) := by decide +kernel
theorem dX11_aQuestion_110 : decode cX11_aQuestion 110 = .ok (.bipush 19, 2) := by decide +kernel
theorem dX11_aQuestion_112 : decode cX11_aQuestion 112 = .ok (.invokevirtual 246, 3) := by decide +kernel
theorem dX11_aQuestion_115 : decode cX11_aQuestion 115 = .ok (.aload_n 0, 1) := by decide +kernel
theorem dX11_aQuestion_116 : decode cX11_aQuestion 116 = .ok (.iconst 3, 1) := by decide +kernel
theorem dX11_aQuestion_117 : decode cX11_aQuestion 117 = .ok (.invokevirtual 246, 3) := by decide +kernel
theorem dX11_aQuestion_120 : decode cX11_aQuestion 120 = .ok (.aload_n 0, 1) := by decide +kernel
theorem dX11_aQuestion_121 : decode cX11_aQuestion 121 = .ok (.iconst 0, 1) := by decide +kernel
theorem dX11_aQuestion_122 : decode cX11_aQuestion 122 = .ok (.invokevirtual 234, 3) := by decide +kernel
theorem dX11_aQuestion_125 : decode cX11_aQuestion 125 = .ok (.ifCond .ne 7, 3) := by decide +kernel
theorem dX11_aQuestion_128 : decode cX11_aQuestion 128 = .ok (.aload_n 0, 1) := by decide +kernel
theorem dX11_aQuestion_129 : decode cX11_aQuestion 129 = .ok (.invokevirtual 243, 3) := by decide +kernel
theorem dX11_aQuestion_132 : decode cX11_aQuestion 132 = .ok (.aload_n 0, 1) := by decide +kernel
theorem dX11_aQuestion_133 : decode cX11_aQuestion 133 = .ok (.getfield 24, 3) := by decide +kernel
theorem dX11_aQuestion_136 : decode cX11_aQuestion 136 = .ok (.bipush 30, 2) := by decide +kernel
theorem dX11_aQuestion_138 : decode cX11_aQuestion 138 = .ok (.iload_n 2, 1) := by decide +kernel
theorem dX11_aQuestion_139 : decode cX11_aQuestion 139 = .ok (.iastore, 1) := by decide +kernel
theorem dX11_aQuestion_140 : decode cX11_aQuestion 140 = .ok (.aload_n 0, 1) := by decide +kernel
theorem dX11_aQuestion_141 : decode cX11_aQuestion 141 = .ok (.getfield 24, 3) := by decide +kernel
theorem dX11_aQuestion_144 : decode cX11_aQuestion 144 = .ok (.bipush 31, 2) := by decide +kernel
theorem dX11_aQuestion_146 : decode cX11_aQuestion 146 = .ok (.iload_n 3, 1) := by decide +kernel
theorem dX11_aQuestion_147 : decode cX11_aQuestion 147 = .ok (.iastore, 1) := by decide +kernel
theorem dX11_aQuestion_148 : decode cX11_aQuestion 148 = .ok (.aload_n 0, 1) := by decide +kernel
theorem dX11_aQuestion_149 : decode cX11_aQuestion 149 = .ok (.getfield 24, 3) := by decide +kernel
theorem dX11_aQuestion_152 : decode cX11_aQuestion 152 = .ok (.bipush 33, 2) := by decide +kernel
theorem dX11_aQuestion_154 : decode cX11_aQuestion 154 = .ok (.iload_n 1, 1) := by decide +kernel
theorem dX11_aQuestion_155 : decode cX11_aQuestion 155 = .ok (.iastore, 1) := by decide +kernel
theorem dX11_aQuestion_156 : decode cX11_aQuestion 156 = .ok (.return_, 1) := by decide +kernel
theorem dX11_at_0 : decode cX11_at 0 = .ok (.iconst 5, 1) := by decide +kernel
theorem dX11_at_1 : decode cX11_at 1 = .ok (.iload_n 1, 1) := by decide +kernel
theorem dX11_at_2 : decode cX11_at 2 = .ok (.ifCond .lt 14, 3) := by decide +kernel
theorem dX11_at_5 : decode cX11_at 5 = .ok (.iload_n 0, 1) := by decide +kernel
theorem dX11_at_6 : decode cX11_at 6 = .ok (.iload_n 1, 1) := by decide +kernel
theorem dX11_at_7 : decode cX11_at 7 = .ok (.if_icmp .lt 9, 3) := by decide +kernel
theorem dX11_at_10 : decode cX11_at 10 = .ok (.iload_n 0, 1) := by decide +kernel
theorem dX11_at_11 : decode cX11_at 11 = .ok (.iconst 1, 1) := by decide +kernel
theorem dX11_at_12 : decode cX11_at 12 = .ok (.iadd, 1) := by decide +kernel
theorem dX11_at_13 : decode cX11_at 13 = .ok (.goto 4, 3) := by decide +kernel
theorem dX11_at_16 : decode cX11_at 16 = .ok (.iload_n 0, 1) := by decide +kernel
theorem dX11_at_17 : decode cX11_at 17 = .ok (.imul, 1) := by decide +kernel
theorem dX11_at_18 : decode cX11_at 18 = .ok (.ireturn, 1) := by decide +kernel
theorem dX11_isTale_0 : decode cX11_isTale 0 = .ok (.iload_n 1, 1) := by decide +kernel
theorem dX11_isTale_1 : decode cX11_isTale 1 = .ok (.invokestatic 182, 3) := by decide +kernel
theorem dX11_isTale_4 : decode cX11_isTale 4 = .ok (.istore 4, 2) := by decide +kernel
theorem dX11_isTale_6 : decode cX11_isTale 6 = .ok (.aload_n 0, 1) := by decide +kernel
theorem dX11_isTale_7 : decode cX11_isTale 7 = .ok (.getfield 249, 3) := by decide +kernel
theorem dX11_isTale_10 : decode cX11_isTale 10 = .ok (.iload_n 2, 1) := by decide +kernel
theorem dX11_isTale_11 : decode cX11_isTale 11 = .ok (.ifCond .lt 10, 3) := by decide +kernel
theorem dX11_isTale_14 : decode cX11_isTale 14 = .ok (.iload 4, 2) := by decide +kernel
theorem dX11_isTale_16 : decode cX11_isTale 16 = .ok (.iconst 1, 1) := by decide +kernel
theorem dX11_isTale_17 : decode cX11_isTale 17 = .ok (.iadd, 1) := by decide +kernel
theorem dX11_isTale_18 : decode cX11_isTale 18 = .ok (.goto 5, 3) := by decide +kernel
theorem dX11_isTale_21 : decode cX11_isTale 21 = .ok (.iload 4, 2) := by decide +kernel
theorem dX11_isTale_23 : decode cX11_isTale 23 = .ok (.if_icmp .ne 19, 3) := by decide +kernel
theorem dX11_isTale_26 : decode cX11_isTale 26 = .ok (.aload_n 0, 1) := by decide +kernel
theorem dX11_isTale_27 : decode cX11_isTale 27 = .ok (.getfield 24, 3) := by decide +kernel
theorem dX11_isTale_30 : decode cX11_isTale 30 = .ok (.bipush 30, 2) := by decide +kernel
theorem dX11_isTale_32 : decode cX11_isTale 32 = .ok (.iaload, 1) := by decide +kernel
theorem dX11_isTale_33 : decode cX11_isTale 33 = .ok (.iload_n 1, 1) := by decide +kernel
theorem dX11_isTale_34 : decode cX11_isTale 34 = .ok (.iload 4, 2) := by decide +kernel
theorem dX11_isTale_36 : decode cX11_isTale 36 = .ok (.invokestatic 189, 3) := by decide +kernel
theorem dX11_isTale_39 : decode cX11_isTale 39 = .ok (.if_icmp .eq 5, 3) := by decide +kernel
theorem dX11_isTale_42 : decode cX11_isTale 42 = .ok (.iconst 0, 1) := by decide +kernel
theorem dX11_isTale_43 : decode cX11_isTale 43 = .ok (.ireturn, 1) := by decide +kernel
theorem dX11_isTale_44 : decode cX11_isTale 44 = .ok (.aload_n 0, 1) := by decide +kernel
theorem dX11_isTale_45 : decode cX11_isTale 45 = .ok (.getfield 24, 3) := by decide +kernel
theorem dX11_isTale_48 : decode cX11_isTale 48 = .ok (.bipush 33, 2) := by decide +kernel
theorem dX11_isTale_50 : decode cX11_isTale 50 = .ok (.iaload, 1) := by decide +kernel
theorem dX11_isTale_51 : decode cX11_isTale 51 = .ok (.istore 5, 2) := by decide +kernel
theorem dX11_isTale_53 : decode cX11_isTale 53 = .ok (.aload_n 0, 1) := by decide +kernel
theorem dX11_isTale_54 : decode cX11_isTale 54 = .ok (.iconst (-1), 1) := by decide +kernel
theorem dX11_isTale_55 : decode cX11_isTale 55 = .ok (.putfield 276, 3) := by decide +kernel
theorem dX11_isTale_58 : decode cX11_isTale 58 = .ok (.aload_n 0, 1) := by decide +kernel
theorem dX11_isTale_59 : decode cX11_isTale 59 = .ok (.iconst (-1), 1) := by decide +kernel
theorem dX11_isTale_60 : decode cX11_isTale 60 = .ok (.putfield 279, 3) := by decide +kernel
theorem dX11_isTale_63 : decode cX11_isTale 63 = .ok (.iconst 1, 1) := by decide +kernel
theorem dX11_isTale_64 : decode cX11_isTale 64 = .ok (.istore 6, 2) := by decide +kernel
theorem dX11_isTale_66 : decode cX11_isTale 66 = .ok (.iconst 0, 1) := by decide +kernel
theorem dX11_isTale_67 : decode cX11_isTale 67 = .ok (.istore 7, 2) := by decide +kernel
theorem dX11_isTale_69 : decode cX11_isTale 69 = .ok (.iload 7, 2) := by decide +kernel
theorem dX11_isTale_71 : decode cX11_isTale 71 = .ok (.iload 4, 2) := by decide +kernel
theorem dX11_isTale_73 : decode cX11_isTale 73 = .ok (.if_icmp .ge 197, 3) := by decide +kernel
theorem dX11_isTale_76 : decode cX11_isTale 76 = .ok (.iload_n 3, 1) := by decide +kernel
theorem dX11_isTale_77 : decode cX11_isTale 77 = .ok (.ifCond .eq 16, 3) := by decide +kernel
theorem dX11_isTale_80 : decode cX11_isTale 80 = .ok (.iload 7, 2) := by decide +kernel
theorem dX11_isTale_82 : decode cX11_isTale 82 = .ok (.iconst 2, 1) := by decide +kernel
theorem dX11_isTale_83 : decode cX11_isTale 83 = .ok (.if_icmp .ge 10, 3) := by decide +kernel
theorem dX11_isTale_86 : decode cX11_isTale 86 = .ok (.iconst 1, 1) := by decide +kernel
theorem dX11_isTale_87 : decode cX11_isTale 87 = .ok (.iload 7, 2) := by decide +kernel
theorem dX11_isTale_89 : decode cX11_isTale 89 = .ok (.isub, 1) := by decide +kernel
theorem dX11_isTale_90 : decode cX11_isTale 90 = .ok (.goto 5, 3) := by decide +kernel
theorem dX11_isTale_93 : decode cX11_isTale 93 = .ok (.iload 7, 2) := by decide +kernel
theorem dX11_isTale_95 : decode cX11_isTale 95 = .ok (.iload_n 2, 1) := by decide +kernel
theorem dX11_isTale_96 : decode cX11_isTale 96 = .ok (.invokestatic 282, 3) := by decide +kernel
theorem dX11_isTale_99 : decode cX11_isTale 99 = .ok (.istore 8, 2) := by decide +kernel
theorem dX11_isTale_101 : decode cX11_isTale 101 = .ok (.iload_n 1, 1) := by decide +kernel
theorem dX11_isTale_102 : decode cX11_isTale 102 = .ok (.iload 7, 2) := by decide +kernel
theorem dX11_isTale_104 : decode cX11_isTale 104 = .ok (.invokestatic 189, 3) := by decide +kernel
theorem dX11_isTale_107 : decode cX11_isTale 107 = .ok (.istore 9, 2) := by decide +kernel
theorem dX11_isTale_109 : decode cX11_isTale 109 = .ok (.iload 6, 2) := by decide +kernel
theorem dX11_isTale_111 : decode cX11_isTale 111 = .ok (.ifCond .eq 45, 3) := by decide +kernel
theorem dX11_isTale_114 : decode cX11_isTale 114 = .ok (.aload_n 0, 1) := by decide +kernel
theorem dX11_isTale_115 : decode cX11_isTale 115 = .ok (.getfield 24, 3) := by decide +kernel
theorem dX11_isTale_118 : decode cX11_isTale 118 = .ok (.iload 8, 2) := by decide +kernel
theorem dX11_isTale_120 : decode cX11_isTale 120 = .ok (.iaload, 1) := by decide +kernel
theorem dX11_isTale_121 : decode cX11_isTale 121 = .ok (.iload 9, 2) := by decide +kernel
theorem dX11_isTale_123 : decode cX11_isTale 123 = .ok (.if_icmp .ne 33, 3) := by decide +kernel
theorem dX11_isTale_126 : decode cX11_isTale 126 = .ok (.aload_n 0, 1) := by decide +kernel
theorem dX11_isTale_127 : decode cX11_isTale 127 = .ok (.getfield 24, 3) := by decide +kernel
theorem dX11_isTale_130 : decode cX11_isTale 130 = .ok (.iload 8, 2) := by decide +kernel
theorem dX11_isTale_132 : decode cX11_isTale 132 = .ok (.iconst 3, 1) := by decide +kernel
theorem dX11_isTale_133 : decode cX11_isTale 133 = .ok (.iadd, 1) := by decide +kernel
theorem dX11_isTale_134 : decode cX11_isTale 134 = .ok (.iaload, 1) := by decide +kernel
theorem dX11_isTale_135 : decode cX11_isTale 135 = .ok (.iload 5, 2) := by decide +kernel
theorem dX11_isTale_137 : decode cX11_isTale 137 = .ok (.if_icmp .eq 15, 3) := by decide +kernel
theorem dX11_isTale_140 : decode cX11_isTale 140 = .ok (.iload 9, 2) := by decide +kernel
theorem dX11_isTale_142 : decode cX11_isTale 142 = .ok (.iconst 1, 1) := by decide +kernel
theorem dX11_isTale_143 : decode cX11_isTale 143 = .ok (.if_icmp .eq 9, 3) := by decide +kernel
theorem dX11_isTale_146 : decode cX11_isTale 146 = .ok (.iload 9, 2) := by decide +kernel
theorem dX11_isTale_148 : decode cX11_isTale 148 = .ok (.iconst 4, 1) := by decide +kernel
theorem dX11_isTale_149 : decode cX11_isTale 149 = .ok (.if_icmp .ne 7, 3) := by decide +kernel
theorem dX11_isTale_152 : decode cX11_isTale 152 = .ok (.iconst 1, 1) := by decide +kernel
theorem dX11_isTale_153 : decode cX11_isTale 153 = .ok (.goto 4, 3) := by decide +kernel
theorem dX11_isTale_156 : decode cX11_isTale 156 = .ok (.iconst 0, 1) := by decide +kernel
theorem dX11_isTale_157 : decode cX11_isTale 157 = .ok (.istore 6, 2) := by decide +kernel
theorem dX11_isTale_159 : decode cX11_isTale 159 = .ok (.iload 9, 2) := by decide +kernel
theorem dX11_isTale_161 : decode cX11_isTale 161 = .ok (.bipush 6, 2) := by decide +kernel
theorem dX11_isTale_163 : decode cX11_isTale 163 = .ok (.if_icmp .ne 47, 3) := by decide +kernel
theorem dX11_isTale_166 : decode cX11_isTale 166 = .ok (.aload_n 0, 1) := by decide +kernel
theorem dX11_isTale_167 : decode cX11_isTale 167 = .ok (.aload_n 0, 1) := by decide +kernel
theorem dX11_isTale_168 : decode cX11_isTale 168 = .ok (.getfield 24, 3) := by decide +kernel
theorem dX11_isTale_171 : decode cX11_isTale 171 = .ok (.iload 8, 2) := by decide +kernel
theorem dX11_isTale_173 : decode cX11_isTale 173 = .ok (.iconst 1, 1) := by decide +kernel
theorem dX11_isTale_174 : decode cX11_isTale 174 = .ok (.iadd, 1) := by decide +kernel
theorem dX11_isTale_175 : decode cX11_isTale 175 = .ok (.iaload, 1) := by decide +kernel
theorem dX11_isTale_176 : decode cX11_isTale 176 = .ok (.putfield 279, 3) := by decide +kernel
theorem dX11_isTale_179 : decode cX11_isTale 179 = .ok (.iload 6, 2) := by decide +kernel
theorem dX11_isTale_181 : decode cX11_isTale 181 = .ok (.ifCond .eq 23, 3) := by decide +kernel
theorem dX11_isTale_184 : decode cX11_isTale 184 = .ok (.aload_n 0, 1) := by decide +kernel
theorem dX11_isTale_185 : decode cX11_isTale 185 = .ok (.getfield 24, 3) := by decide +kernel
theorem dX11_isTale_188 : decode cX11_isTale 188 = .ok (.iload 8, 2) := by decide +kernel
theorem dX11_isTale_190 : decode cX11_isTale 190 = .ok (.iconst 2, 1) := by decide +kernel
theorem dX11_isTale_191 : decode cX11_isTale 191 = .ok (.iadd, 1) := by decide +kernel
theorem dX11_isTale_192 : decode cX11_isTale 192 = .ok (.iaload, 1) := by decide +kernel
theorem dX11_isTale_193 : decode cX11_isTale 193 = .ok (.aload_n 0, 1) := by decide +kernel
theorem dX11_isTale_194 : decode cX11_isTale 194 = .ok (.getfield 276, 3) := by decide +kernel
theorem dX11_isTale_197 : decode cX11_isTale 197 = .ok (.if_icmp .ne 7, 3) := by decide +kernel
theorem dX11_isTale_200 : decode cX11_isTale 200 = .ok (.iconst 1, 1) := by decide +kernel
theorem dX11_isTale_201 : decode cX11_isTale 201 = .ok (.goto 4, 3) := by decide +kernel
theorem dX11_isTale_204 : decode cX11_isTale 204 = .ok (.iconst 0, 1) := by decide +kernel
theorem dX11_isTale_205 : decode cX11_isTale 205 = .ok (.istore 6, 2) := by decide +kernel
theorem dX11_isTale_207 : decode cX11_isTale 207 = .ok (.goto 57, 3) := by decide +kernel
theorem dX11_isTale_210 : decode cX11_isTale 210 = .ok (.iload 9, 2) := by decide +kernel
theorem dX11_isTale_212 : decode cX11_isTale 212 = .ok (.iconst 5, 1) := by decide +kernel
theorem dX11_isTale_213 : decode cX11_isTale 213 = .ok (.if_icmp .eq 51, 3) := by decide +kernel
theorem dX11_isTale_216 : decode cX11_isTale 216 = .ok (.iload 6, 2) := by decide +kernel
theorem dX11_isTale_218 : decode cX11_isTale 218 = .ok (.ifCond .eq 30, 3) := by decide +kernel
theorem dX11_isTale_221 : decode cX11_isTale 221 = .ok (.aload_n 0, 1) := by decide +kernel
theorem dX11_isTale_222 : decode cX11_isTale 222 = .ok (.getfield 276, 3) := by decide +kernel
theorem dX11_isTale_225 : decode cX11_isTale 225 = .ok (.ifCond .lt 19, 3) := by decide +kernel
theorem dX11_isTale_228 : decode cX11_isTale 228 = .ok (.aload_n 0, 1) := by decide +kernel
theorem dX11_isTale_229 : decode cX11_isTale 229 = .ok (.getfield 276, 3) := by decide +kernel
theorem dX11_isTale_232 : decode cX11_isTale 232 = .ok (.aload_n 0, 1) := by decide +kernel
theorem dX11_isTale_233 : decode cX11_isTale 233 = .ok (.getfield 24, 3) := by decide +kernel
theorem dX11_isTale_236 : decode cX11_isTale 236 = .ok (.iload 8, 2) := by decide +kernel
theorem dX11_isTale_238 : decode cX11_isTale 238 = .ok (.iconst 1, 1) := by decide +kernel
theorem dX11_isTale_239 : decode cX11_isTale 239 = .ok (.iadd, 1) := by decide +kernel
theorem dX11_isTale_240 : decode cX11_isTale 240 = .ok (.iaload, 1) := by decide +kernel
theorem dX11_isTale_241 : decode cX11_isTale 241 = .ok (.if_icmp .ne 7, 3) := by decide +kernel
theorem dX11_isTale_244 : decode cX11_isTale 244 = .ok (.iconst 1, 1) := by decide +kernel
theorem dX11_isTale_245 : decode cX11_isTale 245 = .ok (.goto 4, 3) := by decide +kernel
theorem dX11_isTale_248 : decode cX11_isTale 248 = .ok (.iconst 0, 1) := by decide +kernel
theorem dX11_isTale_249 : decode cX11_isTale 249 = .ok (.istore 6, 2) := by decide +kernel
theorem dX11_isTale_251 : decode cX11_isTale 251 = .ok (.aload_n 0, 1) := by decide +kernel
theorem dX11_isTale_252 : decode cX11_isTale 252 = .ok (.aload_n 0, 1) := by decide +kernel
theorem dX11_isTale_253 : decode cX11_isTale 253 = .ok (.getfield 24, 3) := by decide +kernel
theorem dX11_isTale_256 : decode cX11_isTale 256 = .ok (.iload 8, 2) := by decide +kernel
theorem dX11_isTale_258 : decode cX11_isTale 258 = .ok (.iconst 1, 1) := by decide +kernel
theorem dX11_isTale_259 : decode cX11_isTale 259 = .ok (.iadd, 1) := by decide +kernel
theorem dX11_isTale_260 : decode cX11_isTale 260 = .ok (.iaload, 1) := by decide +kernel
theorem dX11_isTale_261 : decode cX11_isTale 261 = .ok (.putfield 276, 3) := by decide +kernel
theorem dX11_isTale_264 : decode cX11_isTale 264 = .ok (.iinc 7 1, 3) := by decide +kernel
theorem dX11_isTale_267 : decode cX11_isTale 267 = .ok (.goto (-198), 3) := by decide +kernel
theorem dX11_isTale_270 : decode cX11_isTale 270 = .ok (.iload 6, 2) := by decide +kernel
theorem dX11_isTale_272 : decode cX11_isTale 272 = .ok (.ifCond .eq 68, 3) := by decide +kernel
theorem dX11_isTale_275 : decode cX11_isTale 275 = .ok (.aload_n 0, 1) := by decide +kernel
theorem dX11_isTale_276 : decode cX11_isTale 276 = .ok (.getfield 276, 3) := by decide +kernel
theorem dX11_isTale_279 : decode cX11_isTale 279 = .ok (.aload_n 0, 1) := by decide +kernel
theorem dX11_isTale_280 : decode cX11_isTale 280 = .ok (.getfield 279, 3) := by decide +kernel
theorem dX11_isTale_283 : decode cX11_isTale 283 = .ok (.if_icmp .eq 57, 3) := by decide +kernel
theorem dX11_isTale_286 : decode cX11_isTale 286 = .ok (.aload_n 0, 1) := by decide +kernel
theorem dX11_isTale_287 : decode cX11_isTale 287 = .ok (.getfield 24, 3) := by decide +kernel
theorem dX11_isTale_290 : decode cX11_isTale 290 = .ok (.bipush 30, 2) := by decide +kernel
theorem dX11_isTale_292 : decode cX11_isTale 292 = .ok (.iaload, 1) := by decide +kernel
theorem dX11_isTale_293 : decode cX11_isTale 293 = .ok (.bipush 9, 2) := by decide +kernel
theorem dX11_isTale_295 : decode cX11_isTale 295 = .ok (.if_icmp .eq 41, 3) := by decide +kernel
theorem dX11_isTale_298 : decode cX11_isTale 298 = .ok (.aload_n 0, 1) := by decide +kernel
theorem dX11_isTale_299 : decode cX11_isTale 299 = .ok (.getfield 24, 3) := by decide +kernel
theorem dX11_isTale_302 : decode cX11_isTale 302 = .ok (.bipush 30, 2) := by decide +kernel
theorem dX11_isTale_304 : decode cX11_isTale 304 = .ok (.iaload, 1) := by decide +kernel
theorem dX11_isTale_305 : decode cX11_isTale 305 = .ok (.bipush 10, 2) := by decide +kernel
theorem dX11_isTale_307 : decode cX11_isTale 307 = .ok (.if_icmp .eq 29, 3) := by decide +kernel
theorem dX11_isTale_310 : decode cX11_isTale 310 = .ok (.aload_n 0, 1) := by decide +kernel
theorem dX11_isTale_311 : decode cX11_isTale 311 = .ok (.getfield 24, 3) := by decide +kernel
theorem dX11_isTale_314 : decode cX11_isTale 314 = .ok (.bipush 31, 2) := by decide +kernel
theorem dX11_isTale_316 : decode cX11_isTale 316 = .ok (.iaload, 1) := by decide +kernel
theorem dX11_isTale_317 : decode cX11_isTale 317 = .ok (.iload_n 1, 1) := by decide +kernel
theorem dX11_isTale_318 : decode cX11_isTale 318 = .ok (.iconst 4, 1) := by decide +kernel
theorem dX11_isTale_319 : decode cX11_isTale 319 = .ok (.if_icmp .ne 10, 3) := by decide +kernel
theorem dX11_isTale_322 : decode cX11_isTale 322 = .ok (.aload_n 0, 1) := by decide +kernel
theorem dX11_isTale_323 : decode cX11_isTale 323 = .ok (.getfield 279, 3) := by decide +kernel
theorem dX11_isTale_326 : decode cX11_isTale 326 = .ok (.goto 7, 3) := by decide +kernel
theorem dX11_isTale_329 : decode cX11_isTale 329 = .ok (.aload_n 0, 1) := by decide +kernel
theorem dX11_isTale_330 : decode cX11_isTale 330 = .ok (.getfield 276, 3) := by decide +kernel
theorem dX11_isTale_333 : decode cX11_isTale 333 = .ok (.if_icmp .ne 7, 3) := by decide +kernel
theorem dX11_isTale_336 : decode cX11_isTale 336 = .ok (.iconst 1, 1) := by decide +kernel
theorem dX11_isTale_337 : decode cX11_isTale 337 = .ok (.goto 4, 3) := by decide +kernel
theorem dX11_isTale_340 : decode cX11_isTale 340 = .ok (.iconst 0, 1) := by decide +kernel
theorem dX11_isTale_341 : decode cX11_isTale 341 = .ok (.istore 6, 2) := by decide +kernel
theorem dX11_isTale_343 : decode cX11_isTale 343 = .ok (.iload 6, 2) := by decide +kernel
theorem dX11_isTale_345 : decode cX11_isTale 345 = .ok (.ifCond .eq 7, 3) := by decide +kernel
theorem dX11_isTale_348 : decode cX11_isTale 348 = .ok (.iload_n 2, 1) := by decide +kernel
theorem dX11_isTale_349 : decode cX11_isTale 349 = .ok (.ifCond .ge 6, 3) := by decide +kernel
theorem dX11_isTale_352 : decode cX11_isTale 352 = .ok (.iload 6, 2) := by decide +kernel
theorem dX11_isTale_354 : decode cX11_isTale 354 = .ok (.ireturn, 1) := by decide +kernel
theorem dX11_isTale_355 : decode cX11_isTale 355 = .ok (.iconst 5, 1) := by decide +kernel
theorem dX11_isTale_356 : decode cX11_isTale 356 = .ok (.iload_n 2, 1) := by decide +kernel
theorem dX11_isTale_357 : decode cX11_isTale 357 = .ok (.imul, 1) := by decide +kernel
theorem dX11_isTale_358 : decode cX11_isTale 358 = .ok (.istore 7, 2) := by decide +kernel
theorem dX11_isTale_360 : decode cX11_isTale 360 = .ok (.aload_n 0, 1) := by decide +kernel
theorem dX11_isTale_361 : decode cX11_isTale 361 = .ok (.getfield 24, 3) := by decide +kernel
theorem dX11_isTale_364 : decode cX11_isTale 364 = .ok (.iload 7, 2) := by decide +kernel
theorem dX11_isTale_366 : decode cX11_isTale 366 = .ok (.iaload, 1) := by decide +kernel
theorem dX11_isTale_367 : decode cX11_isTale 367 = .ok (.ifCond .ne 53, 3) := by decide +kernel
theorem dX11_isTale_370 : decode cX11_isTale 370 = .ok (.aload_n 0, 1) := by decide +kernel
theorem dX11_isTale_371 : decode cX11_isTale 371 = .ok (.getfield 24, 3) := by decide +kernel
theorem dX11_isTale_374 : decode cX11_isTale 374 = .ok (.iload 7, 2) := by decide +kernel
theorem dX11_isTale_376 : decode cX11_isTale 376 = .ok (.iconst 1, 1) := by decide +kernel
theorem dX11_isTale_377 : decode cX11_isTale 377 = .ok (.iadd, 1) := by decide +kernel
theorem dX11_isTale_378 : decode cX11_isTale 378 = .ok (.iaload, 1) := by decide +kernel
theorem dX11_isTale_379 : decode cX11_isTale 379 = .ok (.aload_n 0, 1) := by decide +kernel
theorem dX11_isTale_380 : decode cX11_isTale 380 = .ok (.getfield 276, 3) := by decide +kernel
theorem dX11_isTale_383 : decode cX11_isTale 383 = .ok (.if_icmp .eq 37, 3) := by decide +kernel
theorem dX11_isTale_386 : decode cX11_isTale 386 = .ok (.aload_n 0, 1) := by decide +kernel
theorem dX11_isTale_387 : decode cX11_isTale 387 = .ok (.getfield 24, 3) := by decide +kernel
theorem dX11_isTale_390 : decode cX11_isTale 390 = .ok (.iload 7, 2) := by decide +kernel
theorem dX11_isTale_392 : decode cX11_isTale 392 = .ok (.iconst 1, 1) := by decide +kernel
theorem dX11_isTale_393 : decode cX11_isTale 393 = .ok (.iadd, 1) := by decide +kernel
theorem dX11_isTale_394 : decode cX11_isTale 394 = .ok (.iaload, 1) := by decide +kernel
theorem dX11_isTale_395 : decode cX11_isTale 395 = .ok (.aload_n 0, 1) := by decide +kernel
theorem dX11_isTale_396 : decode cX11_isTale 396 = .ok (.getfield 279, 3) := by decide +kernel
theorem dX11_isTale_399 : decode cX11_isTale 399 = .ok (.if_icmp .eq 21, 3) := by decide +kernel
theorem dX11_isTale_402 : decode cX11_isTale 402 = .ok (.aload_n 0, 1) := by decide +kernel
theorem dX11_isTale_403 : decode cX11_isTale 403 = .ok (.getfield 24, 3) := by decide +kernel
theorem dX11_isTale_406 : decode cX11_isTale 406 = .ok (.iload 7, 2) := by decide +kernel
theorem dX11_isTale_408 : decode cX11_isTale 408 = .ok (.iconst 3, 1) := by decide +kernel
theorem dX11_isTale_409 : decode cX11_isTale 409 = .ok (.iadd, 1) := by decide +kernel
theorem dX11_isTale_410 : decode cX11_isTale 410 = .ok (.iaload, 1) := by decide +kernel
theorem dX11_isTale_411 : decode cX11_isTale 411 = .ok (.iload 5, 2) := by decide +kernel
theorem dX11_isTale_413 : decode cX11_isTale 413 = .ok (.if_icmp .eq 7, 3) := by decide +kernel
theorem dX11_isTale_416 : decode cX11_isTale 416 = .ok (.iconst 1, 1) := by decide +kernel
theorem dX11_isTale_417 : decode cX11_isTale 417 = .ok (.goto 4, 3) := by decide +kernel
theorem dX11_isTale_420 : decode cX11_isTale 420 = .ok (.iconst 0, 1) := by decide +kernel
theorem dX11_isTale_421 : decode cX11_isTale 421 = .ok (.ireturn, 1) := by decide +kernel
theorem dX11_gets_0 : decode cX11_gets 0 = .ok (.iload_n 1, 1) := by decide +kernel
theorem dX11_gets_1 : decode cX11_gets 1 = .ok (.invokestatic 182, 3) := by decide +kernel
theorem dX11_gets_4 : decode cX11_gets 4 = .ok (.istore 4, 2) := by decide +kernel
theorem dX11_gets_6 : decode cX11_gets 6 = .ok (.iconst 0, 1) := by decide +kernel
theorem dX11_gets_7 : decode cX11_gets 7 = .ok (.istore 5, 2) := by decide +kernel
theorem dX11_gets_9 : decode cX11_gets 9 = .ok (.iload 5, 2) := by decide +kernel
theorem dX11_gets_11 : decode cX11_gets 11 = .ok (.bipush 11, 2) := by decide +kernel
theorem dX11_gets_13 : decode cX11_gets 13 = .ok (.if_icmp .ge 20, 3) := by decide +kernel
theorem dX11_gets_16 : decode cX11_gets 16 = .ok (.aload_n 0, 1) := by decide +kernel
theorem dX11_gets_17 : decode cX11_gets 17 = .ok (.getfield 7, 3) := by decide +kernel
theorem dX11_gets_20 : decode cX11_gets 20 = .ok (.bipush 30, 2) := by decide +kernel
theorem dX11_gets_22 : decode cX11_gets 22 = .ok (.iload 5, 2) := by decide +kernel
theorem dX11_gets_24 : decode cX11_gets 24 = .ok (.iadd, 1) := by decide +kernel
theorem dX11_gets_25 : decode cX11_gets 25 = .ok (.iconst (-1), 1) := by decide +kernel
theorem dX11_gets_26 : decode cX11_gets 26 = .ok (.iastore, 1) := by decide +kernel
theorem dX11_gets_27 : decode cX11_gets 27 = .ok (.iinc 5 1, 3) := by decide +kernel
theorem dX11_gets_30 : decode cX11_gets 30 = .ok (.goto (-21), 3) := by decide +kernel
theorem dX11_gets_33 : decode cX11_gets 33 = .ok (.iconst 0, 1) := by decide +kernel
theorem dX11_gets_34 : decode cX11_gets 34 = .ok (.istore 5, 2) := by decide +kernel
theorem dX11_gets_36 : decode cX11_gets 36 = .ok (.iload 5, 2) := by decide +kernel
theorem dX11_gets_38 : decode cX11_gets 38 = .ok (.iload 4, 2) := by decide +kernel
theorem dX11_gets_40 : decode cX11_gets 40 = .ok (.if_icmp .ge 53, 3) := by decide +kernel
theorem dX11_gets_43 : decode cX11_gets 43 = .ok (.aload_n 0, 1) := by decide +kernel
theorem dX11_gets_44 : decode cX11_gets 44 = .ok (.getfield 7, 3) := by decide +kernel
theorem dX11_gets_47 : decode cX11_gets 47 = .ok (.bipush 30, 2) := by decide +kernel
theorem dX11_gets_49 : decode cX11_gets 49 = .ok (.iload_n 1, 1) := by decide +kernel
theorem dX11_gets_50 : decode cX11_gets 50 = .ok (.iload 5, 2) := by decide +kernel
theorem dX11_gets_52 : decode cX11_gets 52 = .ok (.invokestatic 203, 3) := by decide +kernel
theorem dX11_gets_55 : decode cX11_gets 55 = .ok (.iadd, 1) := by decide +kernel
theorem dX11_gets_56 : decode cX11_gets 56 = .ok (.aload_n 0, 1) := by decide +kernel
theorem dX11_gets_57 : decode cX11_gets 57 = .ok (.getfield 24, 3) := by decide +kernel
theorem dX11_gets_60 : decode cX11_gets 60 = .ok (.iload_n 3, 1) := by decide +kernel
theorem dX11_gets_61 : decode cX11_gets 61 = .ok (.ifCond .eq 16, 3) := by decide +kernel
theorem dX11_gets_64 : decode cX11_gets 64 = .ok (.iload 5, 2) := by decide +kernel
theorem dX11_gets_66 : decode cX11_gets 66 = .ok (.iconst 2, 1) := by decide +kernel
theorem dX11_gets_67 : decode cX11_gets 67 = .ok (.if_icmp .ge 10, 3) := by decide +kernel
theorem dX11_gets_70 : decode cX11_gets 70 = .ok (.iconst 1, 1) := by decide +kernel
theorem dX11_gets_71 : decode cX11_gets 71 = .ok (.iload 5, 2) := by decide +kernel
theorem dX11_gets_73 : decode cX11_gets 73 = .ok (.isub, 1) := by decide +kernel
theorem dX11_gets_74 : decode cX11_gets 74 = .ok (.goto 5, 3) := by decide +kernel
theorem dX11_gets_77 : decode cX11_gets 77 = .ok (.iload 5, 2) := by decide +kernel
theorem dX11_gets_79 : decode cX11_gets 79 = .ok (.iload_n 2, 1) := by decide +kernel
theorem dX11_gets_80 : decode cX11_gets 80 = .ok (.invokestatic 282, 3) := by decide +kernel
theorem dX11_gets_83 : decode cX11_gets 83 = .ok (.iconst 4, 1) := by decide +kernel
theorem dX11_gets_84 : decode cX11_gets 84 = .ok (.iadd, 1) := by decide +kernel
theorem dX11_gets_85 : decode cX11_gets 85 = .ok (.iaload, 1) := by decide +kernel
theorem dX11_gets_86 : decode cX11_gets 86 = .ok (.iastore, 1) := by decide +kernel
theorem dX11_gets_87 : decode cX11_gets 87 = .ok (.iinc 5 1, 3) := by decide +kernel
theorem dX11_gets_90 : decode cX11_gets 90 = .ok (.goto (-54), 3) := by decide +kernel
theorem dX11_gets_93 : decode cX11_gets 93 = .ok (.aload_n 0, 1) := by decide +kernel
theorem dX11_gets_94 : decode cX11_gets 94 = .ok (.getfield 7, 3) := by decide +kernel
theorem dX11_gets_97 : decode cX11_gets 97 = .ok (.bipush 34, 2) := by decide +kernel
theorem dX11_gets_99 : decode cX11_gets 99 = .ok (.aload_n 0, 1) := by decide +kernel
theorem dX11_gets_100 : decode cX11_gets 100 = .ok (.getfield 276, 3) := by decide +kernel
theorem dX11_gets_103 : decode cX11_gets 103 = .ok (.iastore, 1) := by decide +kernel
theorem dX11_gets_104 : decode cX11_gets 104 = .ok (.aload_n 0, 1) := by decide +kernel
theorem dX11_gets_105 : decode cX11_gets 105 = .ok (.getfield 7, 3) := by decide +kernel
theorem dX11_gets_108 : decode cX11_gets 108 = .ok (.bipush 35, 2) := by decide +kernel
theorem dX11_gets_110 : decode cX11_gets 110 = .ok (.aload_n 0, 1) := by decide +kernel
theorem dX11_gets_111 : decode cX11_gets 111 = .ok (.getfield 279, 3) := by decide +kernel
theorem dX11_gets_114 : decode cX11_gets 114 = .ok (.iastore, 1) := by decide +kernel
theorem dX11_gets_115 : decode cX11_gets 115 = .ok (.aload_n 0, 1) := by decide +kernel
theorem dX11_gets_116 : decode cX11_gets 116 = .ok (.getfield 7, 3) := by decide +kernel
theorem dX11_gets_119 : decode cX11_gets 119 = .ok (.bipush 36, 2) := by decide +kernel
theorem dX11_gets_121 : decode cX11_gets 121 = .ok (.aload_n 0, 1) := by decide +kernel
theorem dX11_gets_122 : decode cX11_gets 122 = .ok (.getfield 24, 3) := by decide +kernel
theorem dX11_gets_125 : decode cX11_gets 125 = .ok (.bipush 33, 2) := by decide +kernel
theorem dX11_gets_127 : decode cX11_gets 127 = .ok (.iaload, 1) := by decide +kernel
theorem dX11_gets_128 : decode cX11_gets 128 = .ok (.iastore, 1) := by decide +kernel
theorem dX11_gets_129 : decode cX11_gets 129 = .ok (.iload_n 2, 1) := by decide +kernel
theorem dX11_gets_130 : decode cX11_gets 130 = .ok (.ifCond .lt 62, 3) := by decide +kernel
theorem dX11_gets_133 : decode cX11_gets 133 = .ok (.aload_n 0, 1) := by decide +kernel
theorem dX11_gets_134 : decode cX11_gets 134 = .ok (.getfield 7, 3) := by decide +kernel
theorem dX11_gets_137 : decode cX11_gets 137 = .ok (.bipush 33, 2) := by decide +kernel
theorem dX11_gets_139 : decode cX11_gets 139 = .ok (.aload_n 0, 1) := by decide +kernel
theorem dX11_gets_140 : decode cX11_gets 140 = .ok (.getfield 24, 3) := by decide +kernel
theorem dX11_gets_143 : decode cX11_gets 143 = .ok (.iconst 5, 1) := by decide +kernel
theorem dX11_gets_144 : decode cX11_gets 144 = .ok (.iload_n 2, 1) := by decide +kernel
theorem dX11_gets_145 : decode cX11_gets 145 = .ok (.imul, 1) := by decide +kernel
theorem dX11_gets_146 : decode cX11_gets 146 = .ok (.iconst 4, 1) := by decide +kernel
theorem dX11_gets_147 : decode cX11_gets 147 = .ok (.iadd, 1) := by decide +kernel
theorem dX11_gets_148 : decode cX11_gets 148 = .ok (.iaload, 1) := by decide +kernel
theorem dX11_gets_149 : decode cX11_gets 149 = .ok (.iastore, 1) := by decide +kernel
theorem dX11_gets_150 : decode cX11_gets 150 = .ok (.aload_n 0, 1) := by decide +kernel
theorem dX11_gets_151 : decode cX11_gets 151 = .ok (.getfield 7, 3) := by decide +kernel
theorem dX11_gets_154 : decode cX11_gets 154 = .ok (.bipush 37, 2) := by decide +kernel
theorem dX11_gets_156 : decode cX11_gets 156 = .ok (.aload_n 0, 1) := by decide +kernel
theorem dX11_gets_157 : decode cX11_gets 157 = .ok (.getfield 24, 3) := by decide +kernel
theorem dX11_gets_160 : decode cX11_gets 160 = .ok (.iconst 5, 1) := by decide +kernel
theorem dX11_gets_161 : decode cX11_gets 161 = .ok (.iload_n 2, 1) := by decide +kernel
theorem dX11_gets_162 : decode cX11_gets 162 = .ok (.imul, 1) := by decide +kernel
theorem dX11_gets_163 : decode cX11_gets 163 = .ok (.iconst 1, 1) := by decide +kernel
theorem dX11_gets_164 : decode cX11_gets 164 = .ok (.iadd, 1) := by decide +kernel
theorem dX11_gets_165 : decode cX11_gets 165 = .ok (.iaload, 1) := by decide +kernel
theorem dX11_gets_166 : decode cX11_gets 166 = .ok (.iastore, 1) := by decide +kernel
theorem dX11_gets_167 : decode cX11_gets 167 = .ok (.aload_n 0, 1) := by decide +kernel
theorem dX11_gets_168 : decode cX11_gets 168 = .ok (.getfield 7, 3) := by decide +kernel
theorem dX11_gets_171 : decode cX11_gets 171 = .ok (.bipush 38, 2) := by decide +kernel
theorem dX11_gets_173 : decode cX11_gets 173 = .ok (.aload_n 0, 1) := by decide +kernel
theorem dX11_gets_174 : decode cX11_gets 174 = .ok (.getfield 24, 3) := by decide +kernel
theorem dX11_gets_177 : decode cX11_gets 177 = .ok (.iconst 5, 1) := by decide +kernel
theorem dX11_gets_178 : decode cX11_gets 178 = .ok (.iload_n 2, 1) := by decide +kernel
theorem dX11_gets_179 : decode cX11_gets 179 = .ok (.imul, 1) := by decide +kernel
theorem dX11_gets_180 : decode cX11_gets 180 = .ok (.iconst 3, 1) := by decide +kernel
theorem dX11_gets_181 : decode cX11_gets 181 = .ok (.iadd, 1) := by decide +kernel
theorem dX11_gets_182 : decode cX11_gets 182 = .ok (.iaload, 1) := by decide +kernel
theorem dX11_gets_183 : decode cX11_gets 183 = .ok (.iastore, 1) := by decide +kernel
theorem dX11_gets_184 : decode cX11_gets 184 = .ok (.aload_n 0, 1) := by decide +kernel
theorem dX11_gets_185 : decode cX11_gets 185 = .ok (.getfield 7, 3) := by decide +kernel
theorem dX11_gets_188 : decode cX11_gets 188 = .ok (.bipush 39, 2) := by decide +kernel
theorem dX11_gets_190 : decode cX11_gets 190 = .ok (.iload_n 2, 1) := by decide +kernel
theorem dX11_gets_191 : decode cX11_gets 191 = .ok (.iastore, 1) := by decide +kernel
theorem dX11_gets_192 : decode cX11_gets 192 = .ok (.aload_n 0, 1) := by decide +kernel
theorem dX11_gets_193 : decode cX11_gets 193 = .ok (.getfield 7, 3) := by decide +kernel
theorem dX11_gets_196 : decode cX11_gets 196 = .ok (.bipush 40, 2) := by decide +kernel
theorem dX11_gets_198 : decode cX11_gets 198 = .ok (.iload_n 1, 1) := by decide +kernel
theorem dX11_gets_199 : decode cX11_gets 199 = .ok (.aload_n 0, 1) := by decide +kernel
theorem dX11_gets_200 : decode cX11_gets 200 = .ok (.getfield 7, 3) := by decide +kernel
theorem dX11_gets_203 : decode cX11_gets 203 = .ok (.bipush 30, 2) := by decide +kernel
theorem dX11_gets_205 : decode cX11_gets 205 = .ok (.iaload, 1) := by decide +kernel
theorem dX11_gets_206 : decode cX11_gets 206 = .ok (.aload_n 0, 1) := by decide +kernel
theorem dX11_gets_207 : decode cX11_gets 207 = .ok (.getfield 7, 3) := by decide +kernel
theorem dX11_gets_210 : decode cX11_gets 210 = .ok (.bipush 31, 2) := by decide +kernel
theorem dX11_gets_212 : decode cX11_gets 212 = .ok (.iaload, 1) := by decide +kernel
theorem dX11_gets_213 : decode cX11_gets 213 = .ok (.iload 4, 2) := by decide +kernel
theorem dX11_gets_215 : decode cX11_gets 215 = .ok (.iconst 3, 1) := by decide +kernel
theorem dX11_gets_216 : decode cX11_gets 216 = .ok (.if_icmp .ne 13, 3) := by decide +kernel
theorem dX11_gets_219 : decode cX11_gets 219 = .ok (.aload_n 0, 1) := by decide +kernel
theorem dX11_gets_220 : decode cX11_gets 220 = .ok (.getfield 7, 3) := by decide +kernel
theorem dX11_gets_223 : decode cX11_gets 223 = .ok (.bipush 32, 2) := by decide +kernel
theorem dX11_gets_225 : decode cX11_gets 225 = .ok (.iaload, 1) := by decide +kernel
theorem dX11_gets_226 : decode cX11_gets 226 = .ok (.goto 4, 3) := by decide +kernel
theorem dX11_gets_229 : decode cX11_gets 229 = .ok (.iconst 0, 1) := by decide +kernel
theorem dX11_gets_230 : decode cX11_gets 230 = .ok (.invokestatic 110, 3) := by decide +kernel
theorem dX11_gets_233 : decode cX11_gets 233 = .ok (.iastore, 1) := by decide +kernel
theorem dX11_gets_234 : decode cX11_gets 234 = .ok (.return_, 1) := by decide +kernel
theorem dX11_tale_0 : decode cX11_tale 0 = .ok (.iconst 0, 1) := by decide +kernel
theorem dX11_tale_1 : decode cX11_tale 1 = .ok (.istore_n 1, 1) := by decide +kernel
theorem dX11_tale_2 : decode cX11_tale 2 = .ok (.iload_n 1, 1) := by decide +kernel
theorem dX11_tale_3 : decode cX11_tale 3 = .ok (.bipush 8, 2) := by decide +kernel
theorem dX11_tale_5 : decode cX11_tale 5 = .ok (.if_icmp .ge 111, 3) := by decide +kernel
theorem dX11_tale_8 : decode cX11_tale 8 = .ok (.iconst (-1), 1) := by decide +kernel
theorem dX11_tale_9 : decode cX11_tale 9 = .ok (.istore_n 2, 1) := by decide +kernel
theorem dX11_tale_10 : decode cX11_tale 10 = .ok (.iload_n 2, 1) := by decide +kernel
theorem dX11_tale_11 : decode cX11_tale 11 = .ok (.aload_n 0, 1) := by decide +kernel
theorem dX11_tale_12 : decode cX11_tale 12 = .ok (.getfield 249, 3) := by decide +kernel
theorem dX11_tale_15 : decode cX11_tale 15 = .ok (.if_icmp .ge 95, 3) := by decide +kernel
theorem dX11_tale_18 : decode cX11_tale 18 = .ok (.iload_n 2, 1) := by decide +kernel
theorem dX11_tale_19 : decode cX11_tale 19 = .ok (.bipush 6, 2) := by decide +kernel
theorem dX11_tale_21 : decode cX11_tale 21 = .ok (.if_icmp .ge 89, 3) := by decide +kernel
theorem dX11_tale_24 : decode cX11_tale 24 = .ok (.iconst 0, 1) := by decide +kernel
theorem dX11_tale_25 : decode cX11_tale 25 = .ok (.istore_n 3, 1) := by decide +kernel
theorem dX11_tale_26 : decode cX11_tale 26 = .ok (.iload_n 3, 1) := by decide +kernel
theorem dX11_tale_27 : decode cX11_tale 27 = .ok (.iload_n 1, 1) := by decide +kernel
theorem dX11_tale_28 : decode cX11_tale 28 = .ok (.invokestatic 179, 3) := by decide +kernel
theorem dX11_tale_31 : decode cX11_tale 31 = .ok (.ifCond .eq 7, 3) := by decide +kernel
theorem dX11_tale_34 : decode cX11_tale 34 = .ok (.iconst 2, 1) := by decide +kernel
theorem dX11_tale_35 : decode cX11_tale 35 = .ok (.goto 4, 3) := by decide +kernel
theorem dX11_tale_38 : decode cX11_tale 38 = .ok (.iconst 1, 1) := by decide +kernel
theorem dX11_tale_39 : decode cX11_tale 39 = .ok (.if_icmp .ge 65, 3) := by decide +kernel
theorem dX11_tale_42 : decode cX11_tale 42 = .ok (.aload_n 0, 1) := by decide +kernel
theorem dX11_tale_43 : decode cX11_tale 43 = .ok (.iload_n 1, 1) := by decide +kernel
theorem dX11_tale_44 : decode cX11_tale 44 = .ok (.iload_n 2, 1) := by decide +kernel
theorem dX11_tale_45 : decode cX11_tale 45 = .ok (.iload_n 3, 1) := by decide +kernel
theorem dX11_tale_46 : decode cX11_tale 46 = .ok (.iconst 1, 1) := by decide +kernel
theorem dX11_tale_47 : decode cX11_tale 47 = .ok (.if_icmp .ne 7, 3) := by decide +kernel
theorem dX11_tale_50 : decode cX11_tale 50 = .ok (.iconst 1, 1) := by decide +kernel
theorem dX11_tale_51 : decode cX11_tale 51 = .ok (.goto 4, 3) := by decide +kernel
theorem dX11_tale_54 : decode cX11_tale 54 = .ok (.iconst 0, 1) := by decide +kernel
theorem dX11_tale_55 : decode cX11_tale 55 = .ok (.invokevirtual 285, 3) := by decide +kernel
theorem dX11_tale_58 : decode cX11_tale 58 = .ok (.ifCond .ne 6, 3) := by decide +kernel
theorem dX11_tale_61 : decode cX11_tale 61 = .ok (.goto 37, 3) := by decide +kernel
theorem dX11_tale_64 : decode cX11_tale 64 = .ok (.aload_n 0, 1) := by decide +kernel
theorem dX11_tale_65 : decode cX11_tale 65 = .ok (.iload_n 1, 1) := by decide +kernel
theorem dX11_tale_66 : decode cX11_tale 66 = .ok (.iload_n 2, 1) := by decide +kernel
theorem dX11_tale_67 : decode cX11_tale 67 = .ok (.iload_n 3, 1) := by decide +kernel
theorem dX11_tale_68 : decode cX11_tale 68 = .ok (.iconst 1, 1) := by decide +kernel
theorem dX11_tale_69 : decode cX11_tale 69 = .ok (.if_icmp .ne 7, 3) := by decide +kernel
theorem dX11_tale_72 : decode cX11_tale 72 = .ok (.iconst 1, 1) := by decide +kernel
theorem dX11_tale_73 : decode cX11_tale 73 = .ok (.goto 4, 3) := by decide +kernel
theorem dX11_tale_76 : decode cX11_tale 76 = .ok (.iconst 0, 1) := by decide +kernel
theorem dX11_tale_77 : decode cX11_tale 77 = .ok (.invokevirtual 289, 3) := by decide +kernel
theorem dX11_tale_80 : decode cX11_tale 80 = .ok (.iload_n 1, 1) := by decide +kernel
theorem dX11_tale_81 : decode cX11_tale 81 = .ok (.bipush 8, 2) := by decide +kernel
theorem dX11_tale_83 : decode cX11_tale 83 = .ok (.iload_n 3, 1) := by decide +kernel
theorem dX11_tale_84 : decode cX11_tale 84 = .ok (.imul, 1) := by decide +kernel
theorem dX11_tale_85 : decode cX11_tale 85 = .ok (.iadd, 1) := by decide +kernel
theorem dX11_tale_86 : decode cX11_tale 86 = .ok (.iload_n 2, 1) := by decide +kernel
theorem dX11_tale_87 : decode cX11_tale 87 = .ok (.ifCond .lt 8, 3) := by decide +kernel
theorem dX11_tale_90 : decode cX11_tale 90 = .ok (.bipush 16, 2) := by decide +kernel
theorem dX11_tale_92 : decode cX11_tale 92 = .ok (.goto 4, 3) := by decide +kernel
theorem dX11_tale_95 : decode cX11_tale 95 = .ok (.iconst 0, 1) := by decide +kernel
theorem dX11_tale_96 : decode cX11_tale 96 = .ok (.iadd, 1) := by decide +kernel
theorem dX11_tale_97 : decode cX11_tale 97 = .ok (.ireturn, 1) := by decide +kernel
theorem dX11_tale_98 : decode cX11_tale 98 = .ok (.iinc 3 1, 3) := by decide +kernel
theorem dX11_tale_101 : decode cX11_tale 101 = .ok (.goto (-75), 3) := by decide +kernel
theorem dX11_tale_104 : decode cX11_tale 104 = .ok (.iinc 2 1, 3) := by decide +kernel
theorem dX11_tale_107 : decode cX11_tale 107 = .ok (.goto (-97), 3) := by decide +kernel
theorem dX11_tale_110 : decode cX11_tale 110 = .ok (.iinc 1 1, 3) := by decide +kernel
theorem dX11_tale_113 : decode cX11_tale 113 = .ok (.goto (-111), 3) := by decide +kernel
theorem dX11_tale_116 : decode cX11_tale 116 = .ok (.iconst (-1), 1) := by decide +kernel
theorem dX11_tale_117 : decode cX11_tale 117 = .ok (.ireturn, 1) := by decide +kernel
theorem dX11_read_0 : decode cX11_read 0 = .ok (.aload_n 0, 1) := by decide +kernel
theorem dX11_read_1 : decode cX11_read 1 = .ok (.aload_n 0, 1) := by decide +kernel
theorem dX11_read_2 : decode cX11_read 2 = .ok (.getfield 7, 3) := by decide +kernel
theorem dX11_read_5 : decode cX11_read 5 = .ok (.bipush 11, 2) := by decide +kernel
theorem dX11_read_7 : decode cX11_read 7 = .ok (.iaload, 1) := by decide +kernel
theorem dX11_read_8 : decode cX11_read 8 = .ok (.putfield 206, 3) := by decide +kernel
theorem dX11_read_11 : decode cX11_read 11 = .ok (.aload_n 0, 1) := by decide +kernel
theorem dX11_read_12 : decode cX11_read 12 = .ok (.getfield 7, 3) := by decide +kernel
theorem dX11_read_15 : decode cX11_read 15 = .ok (.bipush 11, 2) := by decide +kernel
theorem dX11_read_17 : decode cX11_read 17 = .ok (.iconst 0, 1) := by decide +kernel
theorem dX11_read_18 : decode cX11_read 18 = .ok (.iastore, 1) := by decide +kernel
theorem dX11_read_19 : decode cX11_read 19 = .ok (.aload_n 0, 1) := by decide +kernel
theorem dX11_read_20 : decode cX11_read 20 = .ok (.iconst 0, 1) := by decide +kernel
theorem dX11_read_21 : decode cX11_read 21 = .ok (.putfield 209, 3) := by decide +kernel
theorem dX11_read_24 : decode cX11_read 24 = .ok (.aload_n 0, 1) := by decide +kernel
theorem dX11_read_25 : decode cX11_read 25 = .ok (.getfield 7, 3) := by decide +kernel
theorem dX11_read_28 : decode cX11_read 28 = .ok (.bipush 12, 2) := by decide +kernel
theorem dX11_read_30 : decode cX11_read 30 = .ok (.iconst 0, 1) := by decide +kernel
theorem dX11_read_31 : decode cX11_read 31 = .ok (.iastore, 1) := by decide +kernel
theorem dX11_read_32 : decode cX11_read 32 = .ok (.aload_n 0, 1) := by decide +kernel
theorem dX11_read_33 : decode cX11_read 33 = .ok (.getfield 7, 3) := by decide +kernel
theorem dX11_read_36 : decode cX11_read 36 = .ok (.bipush 13, 2) := by decide +kernel
theorem dX11_read_38 : decode cX11_read 38 = .ok (.iconst (-1), 1) := by decide +kernel
theorem dX11_read_39 : decode cX11_read 39 = .ok (.iastore, 1) := by decide +kernel
theorem dX11_read_40 : decode cX11_read 40 = .ok (.aload_n 0, 1) := by decide +kernel
theorem dX11_read_41 : decode cX11_read 41 = .ok (.iconst 0, 1) := by decide +kernel
theorem dX11_read_42 : decode cX11_read 42 = .ok (.putfield 230, 3) := by decide +kernel
theorem dX11_read_45 : decode cX11_read 45 = .ok (.aload_n 0, 1) := by decide +kernel
theorem dX11_read_46 : decode cX11_read 46 = .ok (.iconst 0, 1) := by decide +kernel
theorem dX11_read_47 : decode cX11_read 47 = .ok (.putfield 249, 3) := by decide +kernel
theorem dX11_read_50 : decode cX11_read 50 = .ok (.aload_n 0, 1) := by decide +kernel
theorem dX11_read_51 : decode cX11_read 51 = .ok (.invokevirtual 237, 3) := by decide +kernel
theorem dX11_read_54 : decode cX11_read 54 = .ok (.aload_n 0, 1) := by decide +kernel
theorem dX11_read_55 : decode cX11_read 55 = .ok (.getfield 230, 3) := by decide +kernel
theorem dX11_read_58 : decode cX11_read 58 = .ok (.ifCond .ne 19, 3) := by decide +kernel
theorem dX11_read_61 : decode cX11_read 61 = .ok (.aload_n 0, 1) := by decide +kernel
theorem dX11_read_62 : decode cX11_read 62 = .ok (.getfield 218, 3) := by decide +kernel
theorem dX11_read_65 : decode cX11_read 65 = .ok (.bipush 24, 2) := by decide +kernel
theorem dX11_read_67 : decode cX11_read 67 = .ok (.if_icmp .eq 10, 3) := by decide +kernel
theorem dX11_read_70 : decode cX11_read 70 = .ok (.aload_n 0, 1) := by decide +kernel
theorem dX11_read_71 : decode cX11_read 71 = .ok (.invokevirtual 293, 3) := by decide +kernel
theorem dX11_read_74 : decode cX11_read 74 = .ok (.goto (-20), 3) := by decide +kernel
theorem dX11_read_77 : decode cX11_read 77 = .ok (.aload_n 0, 1) := by decide +kernel
theorem dX11_read_78 : decode cX11_read 78 = .ok (.getfield 230, 3) := by decide +kernel
theorem dX11_read_81 : decode cX11_read 81 = .ok (.ifCond .ne 7, 3) := by decide +kernel
theorem dX11_read_84 : decode cX11_read 84 = .ok (.aload_n 0, 1) := by decide +kernel
theorem dX11_read_85 : decode cX11_read 85 = .ok (.invokevirtual 296, 3) := by decide +kernel
theorem dX11_read_88 : decode cX11_read 88 = .ok (.aload_n 0, 1) := by decide +kernel
theorem dX11_read_89 : decode cX11_read 89 = .ok (.getfield 230, 3) := by decide +kernel
theorem dX11_read_92 : decode cX11_read 92 = .ok (.ifCond .eq 5, 3) := by decide +kernel
theorem dX11_read_95 : decode cX11_read 95 = .ok (.iconst (-1), 1) := by decide +kernel
theorem dX11_read_96 : decode cX11_read 96 = .ok (.ireturn, 1) := by decide +kernel
theorem dX11_read_97 : decode cX11_read 97 = .ok (.aload_n 0, 1) := by decide +kernel
theorem dX11_read_98 : decode cX11_read 98 = .ok (.invokevirtual 299, 3) := by decide +kernel
theorem dX11_read_101 : decode cX11_read 101 = .ok (.istore_n 1, 1) := by decide +kernel
theorem dX11_read_102 : decode cX11_read 102 = .ok (.iload_n 1, 1) := by decide +kernel
theorem dX11_read_103 : decode cX11_read 103 = .ok (.ifCond .lt 5, 3) := by decide +kernel
theorem dX11_read_106 : decode cX11_read 106 = .ok (.iload_n 1, 1) := by decide +kernel
theorem dX11_read_107 : decode cX11_read 107 = .ok (.ireturn, 1) := by decide +kernel
theorem dX11_read_108 : decode cX11_read 108 = .ok (.aload_n 0, 1) := by decide +kernel
theorem dX11_read_109 : decode cX11_read 109 = .ok (.getfield 7, 3) := by decide +kernel
theorem dX11_read_112 : decode cX11_read 112 = .ok (.bipush 12, 2) := by decide +kernel
theorem dX11_read_114 : decode cX11_read 114 = .ok (.iconst 2, 1) := by decide +kernel
theorem dX11_read_115 : decode cX11_read 115 = .ok (.iastore, 1) := by decide +kernel
theorem dX11_read_116 : decode cX11_read 116 = .ok (.aload_n 0, 1) := by decide +kernel
theorem dX11_read_117 : decode cX11_read 117 = .ok (.getfield 7, 3) := by decide +kernel
theorem dX11_read_120 : decode cX11_read 120 = .ok (.bipush 13, 2) := by decide +kernel
theorem dX11_read_122 : decode cX11_read 122 = .ok (.aload_n 0, 1) := by decide +kernel
theorem dX11_read_123 : decode cX11_read 123 = .ok (.getfield 273, 3) := by decide +kernel
theorem dX11_read_126 : decode cX11_read 126 = .ok (.iastore, 1) := by decide +kernel
theorem dX11_read_127 : decode cX11_read 127 = .ok (.iconst (-1), 1) := by decide +kernel
theorem dX11_read_128 : decode cX11_read 128 = .ok (.ireturn, 1) := by decide +kernel
theorem dX11_fault_0 : decode cX11_fault 0 = .ok (.iload_n 1, 1) := by decide +kernel
theorem dX11_fault_1 : decode cX11_fault 1 = .ok (.ifCond .ne 13, 3) := by decide +kernel
theorem dX11_fault_4 : decode cX11_fault 4 = .ok (.aload_n 0, 1) := by decide +kernel
theorem dX11_fault_5 : decode cX11_fault 5 = .ok (.getfield 7, 3) := by decide +kernel
theorem dX11_fault_8 : decode cX11_fault 8 = .ok (.bipush 12, 2) := by decide +kernel
theorem dX11_fault_10 : decode cX11_fault 10 = .ok (.iaload, 1) := by decide +kernel
theorem dX11_fault_11 : decode cX11_fault 11 = .ok (.goto 19, 3) := by decide +kernel
theorem dX11_fault_14 : decode cX11_fault 14 = .ok (.iload_n 1, 1) := by decide +kernel
theorem dX11_fault_15 : decode cX11_fault 15 = .ok (.iconst 1, 1) := by decide +kernel
theorem dX11_fault_16 : decode cX11_fault 16 = .ok (.if_icmp .ne 13, 3) := by decide +kernel
theorem dX11_fault_19 : decode cX11_fault 19 = .ok (.aload_n 0, 1) := by decide +kernel
theorem dX11_fault_20 : decode cX11_fault 20 = .ok (.getfield 7, 3) := by decide +kernel
theorem dX11_fault_23 : decode cX11_fault 23 = .ok (.bipush 13, 2) := by decide +kernel
theorem dX11_fault_25 : decode cX11_fault 25 = .ok (.iaload, 1) := by decide +kernel
theorem dX11_fault_26 : decode cX11_fault 26 = .ok (.goto 4, 3) := by decide +kernel
theorem dX11_fault_29 : decode cX11_fault 29 = .ok (.iconst (-1), 1) := by decide +kernel
theorem dX11_fault_30 : decode cX11_fault 30 = .ok (.ireturn, 1) := by decide +kernel
theorem dX11_got_0 : decode cX11_got 0 = .ok (.iload_n 1, 1) := by decide +kernel
theorem dX11_got_1 : decode cX11_got 1 = .ok (.iconst 0, 1) := by decide +kernel
theorem dX11_got_2 : decode cX11_got 2 = .ok (.bipush 10, 2) := by decide +kernel
theorem dX11_got_4 : decode cX11_got 4 = .ok (.invokestatic 67, 3) := by decide +kernel
theorem dX11_got_7 : decode cX11_got 7 = .ok (.ifCond .eq 15, 3) := by decide +kernel
theorem dX11_got_10 : decode cX11_got 10 = .ok (.aload_n 0, 1) := by decide +kernel
theorem dX11_got_11 : decode cX11_got 11 = .ok (.getfield 7, 3) := by decide +kernel
theorem dX11_got_14 : decode cX11_got 14 = .ok (.bipush 30, 2) := by decide +kernel
theorem dX11_got_16 : decode cX11_got 16 = .ok (.iload_n 1, 1) := by decide +kernel
theorem dX11_got_17 : decode cX11_got 17 = .ok (.iadd, 1) := by decide +kernel
theorem dX11_got_18 : decode cX11_got 18 = .ok (.iaload, 1) := by decide +kernel
theorem dX11_got_19 : decode cX11_got 19 = .ok (.goto 4, 3) := by decide +kernel
theorem dX11_got_22 : decode cX11_got 22 = .ok (.iconst (-1), 1) := by decide +kernel
theorem dX11_got_23 : decode cX11_got 23 = .ok (.ireturn, 1) := by decide +kernel
theorem dX11_count_0 : decode cX11_count 0 = .ok (.iload_n 1, 1) := by decide +kernel
theorem dX11_count_1 : decode cX11_count 1 = .ok (.tableswitch 73 0 4 #[35, 42, 49, 57, 65], 35) := by decide +kernel
theorem dX11_count_36 : decode cX11_count 36 = .ok (.aload_n 0, 1) := by decide +kernel
theorem dX11_count_37 : decode cX11_count 37 = .ok (.getfield 7, 3) := by decide +kernel
theorem dX11_count_40 : decode cX11_count 40 = .ok (.iconst 0, 1) := by decide +kernel
theorem dX11_count_41 : decode cX11_count 41 = .ok (.iaload, 1) := by decide +kernel
theorem dX11_count_42 : decode cX11_count 42 = .ok (.ireturn, 1) := by decide +kernel
theorem dX11_count_43 : decode cX11_count 43 = .ok (.aload_n 0, 1) := by decide +kernel
theorem dX11_count_44 : decode cX11_count 44 = .ok (.getfield 7, 3) := by decide +kernel
theorem dX11_count_47 : decode cX11_count 47 = .ok (.iconst 1, 1) := by decide +kernel
theorem dX11_count_48 : decode cX11_count 48 = .ok (.iaload, 1) := by decide +kernel
theorem dX11_count_49 : decode cX11_count 49 = .ok (.ireturn, 1) := by decide +kernel
theorem dX11_count_50 : decode cX11_count 50 = .ok (.aload_n 0, 1) := by decide +kernel
theorem dX11_count_51 : decode cX11_count 51 = .ok (.getfield 7, 3) := by decide +kernel
theorem dX11_count_54 : decode cX11_count 54 = .ok (.bipush 10, 2) := by decide +kernel
theorem dX11_count_56 : decode cX11_count 56 = .ok (.iaload, 1) := by decide +kernel
theorem dX11_count_57 : decode cX11_count 57 = .ok (.ireturn, 1) := by decide +kernel
theorem dX11_count_58 : decode cX11_count 58 = .ok (.aload_n 0, 1) := by decide +kernel
theorem dX11_count_59 : decode cX11_count 59 = .ok (.getfield 7, 3) := by decide +kernel
theorem dX11_count_62 : decode cX11_count 62 = .ok (.bipush 9, 2) := by decide +kernel
theorem dX11_count_64 : decode cX11_count 64 = .ok (.iaload, 1) := by decide +kernel
theorem dX11_count_65 : decode cX11_count 65 = .ok (.ireturn, 1) := by decide +kernel
theorem dX11_count_66 : decode cX11_count 66 = .ok (.aload_n 0, 1) := by decide +kernel
theorem dX11_count_67 : decode cX11_count 67 = .ok (.getfield 7, 3) := by decide +kernel
theorem dX11_count_70 : decode cX11_count 70 = .ok (.bipush 11, 2) := by decide +kernel
theorem dX11_count_72 : decode cX11_count 72 = .ok (.iaload, 1) := by decide +kernel
theorem dX11_count_73 : decode cX11_count 73 = .ok (.ireturn, 1) := by decide +kernel
theorem dX11_count_74 : decode cX11_count 74 = .ok (.iconst (-1), 1) := by decide +kernel
theorem dX11_count_75 : decode cX11_count 75 = .ok (.ireturn, 1) := by decide +kernel
theorem dX11_image_0 : decode cX11_image 0 = .ok (.iload_n 1, 1) := by decide +kernel
theorem dX11_image_1 : decode cX11_image 1 = .ok (.iconst 0, 1) := by decide +kernel
theorem dX11_image_2 : decode cX11_image 2 = .ok (.iconst 2, 1) := by decide +kernel
theorem dX11_image_3 : decode cX11_image 3 = .ok (.invokestatic 67, 3) := by decide +kernel
theorem dX11_image_6 : decode cX11_image 6 = .ok (.ifCond .ne 5, 3) := by decide +kernel
theorem dX11_image_9 : decode cX11_image 9 = .ok (.iconst 0, 1) := by decide +kernel
theorem dX11_image_10 : decode cX11_image 10 = .ok (.ireturn, 1) := by decide +kernel
theorem dX11_image_11 : decode cX11_image 11 = .ok (.aload_n 0, 1) := by decide +kernel
theorem dX11_image_12 : decode cX11_image 12 = .ok (.getfield 17, 3) := by decide +kernel
theorem dX11_image_15 : decode cX11_image 15 = .ok (.iload_n 1, 1) := by decide +kernel
theorem dX11_image_16 : decode cX11_image 16 = .ok (.iconst 1, 1) := by decide +kernel
theorem dX11_image_17 : decode cX11_image 17 = .ok (.bastore, 1) := by decide +kernel
theorem dX11_image_18 : decode cX11_image 18 = .ok (.iconst 0, 1) := by decide +kernel
theorem dX11_image_19 : decode cX11_image 19 = .ok (.istore_n 2, 1) := by decide +kernel
theorem dX11_image_20 : decode cX11_image 20 = .ok (.iload_n 2, 1) := by decide +kernel
theorem dX11_image_21 : decode cX11_image 21 = .ok (.sipush 962, 3) := by decide +kernel
theorem dX11_image_24 : decode cX11_image 24 = .ok (.if_icmp .ge 29, 3) := by decide +kernel
theorem dX11_image_27 : decode cX11_image 27 = .ok (.aload_n 0, 1) := by decide +kernel
theorem dX11_image_28 : decode cX11_image 28 = .ok (.getfield 7, 3) := by decide +kernel
theorem dX11_image_31 : decode cX11_image 31 = .ok (.sipush 962, 3) := by decide +kernel
theorem dX11_image_34 : decode cX11_image 34 = .ok (.iload_n 1, 1) := by decide +kernel
theorem dX11_image_35 : decode cX11_image 35 = .ok (.iconst 1, 1) := by decide +kernel
theorem dX11_image_36 : decode cX11_image 36 = .ok (.iadd, 1) := by decide +kernel
theorem dX11_image_37 : decode cX11_image 37 = .ok (.imul, 1) := by decide +kernel
theorem dX11_image_38 : decode cX11_image 38 = .ok (.iload_n 2, 1) := by decide +kernel
theorem dX11_image_39 : decode cX11_image 39 = .ok (.iadd, 1) := by decide +kernel
theorem dX11_image_40 : decode cX11_image 40 = .ok (.aload_n 0, 1) := by decide +kernel
theorem dX11_image_41 : decode cX11_image 41 = .ok (.getfield 7, 3) := by decide +kernel
theorem dX11_image_44 : decode cX11_image 44 = .ok (.iload_n 2, 1) := by decide +kernel
theorem dX11_image_45 : decode cX11_image 45 = .ok (.iaload, 1) := by decide +kernel
theorem dX11_image_46 : decode cX11_image 46 = .ok (.iastore, 1) := by decide +kernel
theorem dX11_image_47 : decode cX11_image 47 = .ok (.iinc 2 1, 3) := by decide +kernel
theorem dX11_image_50 : decode cX11_image 50 = .ok (.goto (-30), 3) := by decide +kernel
theorem dX11_image_53 : decode cX11_image 53 = .ok (.iconst 0, 1) := by decide +kernel
theorem dX11_image_54 : decode cX11_image 54 = .ok (.istore_n 2, 1) := by decide +kernel
theorem dX11_image_55 : decode cX11_image 55 = .ok (.iload_n 2, 1) := by decide +kernel
theorem dX11_image_56 : decode cX11_image 56 = .ok (.bipush 12, 2) := by decide +kernel
theorem dX11_image_58 : decode cX11_image 58 = .ok (.if_icmp .ge 28, 3) := by decide +kernel
theorem dX11_image_61 : decode cX11_image 61 = .ok (.aload_n 0, 1) := by decide +kernel
theorem dX11_image_62 : decode cX11_image 62 = .ok (.getfield 13, 3) := by decide +kernel
theorem dX11_image_65 : decode cX11_image 65 = .ok (.bipush 12, 2) := by decide +kernel
theorem dX11_image_67 : decode cX11_image 67 = .ok (.iload_n 1, 1) := by decide +kernel
theorem dX11_image_68 : decode cX11_image 68 = .ok (.iconst 1, 1) := by decide +kernel
theorem dX11_image_69 : decode cX11_image 69 = .ok (.iadd, 1) := by decide +kernel
theorem dX11_image_70 : decode cX11_image 70 = .ok (.imul, 1) := by decide +kernel
theorem dX11_image_71 : decode cX11_image 71 = .ok (.iload_n 2, 1) := by decide +kernel
theorem dX11_image_72 : decode cX11_image 72 = .ok (.iadd, 1) := by decide +kernel
theorem dX11_image_73 : decode cX11_image 73 = .ok (.aload_n 0, 1) := by decide +kernel
theorem dX11_image_74 : decode cX11_image 74 = .ok (.getfield 13, 3) := by decide +kernel
theorem dX11_image_77 : decode cX11_image 77 = .ok (.iload_n 2, 1) := by decide +kernel
theorem dX11_image_78 : decode cX11_image 78 = .ok (.laload, 1) := by decide +kernel
theorem dX11_image_79 : decode cX11_image 79 = .ok (.lastore, 1) := by decide +kernel
theorem dX11_image_80 : decode cX11_image 80 = .ok (.iinc 2 1, 3) := by decide +kernel
theorem dX11_image_83 : decode cX11_image 83 = .ok (.goto (-28), 3) := by decide +kernel
theorem dX11_image_86 : decode cX11_image 86 = .ok (.iconst 1, 1) := by decide +kernel
theorem dX11_image_87 : decode cX11_image 87 = .ok (.ireturn, 1) := by decide +kernel
theorem dX11_again_0 : decode cX11_again 0 = .ok (.iload_n 1, 1) := by decide +kernel
theorem dX11_again_1 : decode cX11_again 1 = .ok (.iconst 0, 1) := by decide +kernel
theorem dX11_again_2 : decode cX11_again 2 = .ok (.iconst 2, 1) := by decide +kernel
theorem dX11_again_3 : decode cX11_again 3 = .ok (.invokestatic 67, 3) := by decide +kernel
theorem dX11_again_6 : decode cX11_again 6 = .ok (.ifCond .eq 12, 3) := by decide +kernel
theorem dX11_again_9 : decode cX11_again 9 = .ok (.aload_n 0, 1) := by decide +kernel
theorem dX11_again_10 : decode cX11_again 10 = .ok (.getfield 17, 3) := by decide +kernel
theorem dX11_again_13 : decode cX11_again 13 = .ok (.iload_n 1, 1) := by decide +kernel
theorem dX11_again_14 : decode cX11_again 14 = .ok (.baload, 1) := by decide +kernel
theorem dX11_again_15 : decode cX11_again 15 = .ok (.ifCond .ne 5, 3) := by decide +kernel
theorem dX11_again_18 : decode cX11_again 18 = .ok (.iconst 0, 1) := by decide +kernel
theorem dX11_again_19 : decode cX11_again 19 = .ok (.ireturn, 1) := by decide +kernel
theorem dX11_again_20 : decode cX11_again 20 = .ok (.iconst 0, 1) := by decide +kernel
theorem dX11_again_21 : decode cX11_again 21 = .ok (.istore_n 2, 1) := by decide +kernel
theorem dX11_again_22 : decode cX11_again 22 = .ok (.iload_n 2, 1) := by decide +kernel
theorem dX11_again_23 : decode cX11_again 23 = .ok (.sipush 962, 3) := by decide +kernel
theorem dX11_again_26 : decode cX11_again 26 = .ok (.if_icmp .ge 29, 3) := by decide +kernel
theorem dX11_again_29 : decode cX11_again 29 = .ok (.aload_n 0, 1) := by decide +kernel
theorem dX11_again_30 : decode cX11_again 30 = .ok (.getfield 7, 3) := by decide +kernel
theorem dX11_again_33 : decode cX11_again 33 = .ok (.iload_n 2, 1) := by decide +kernel
theorem dX11_again_34 : decode cX11_again 34 = .ok (.aload_n 0, 1) := by decide +kernel
theorem dX11_again_35 : decode cX11_again 35 = .ok (.getfield 7, 3) := by decide +kernel
theorem dX11_again_38 : decode cX11_again 38 = .ok (.sipush 962, 3) := by decide +kernel
theorem dX11_again_41 : decode cX11_again 41 = .ok (.iload_n 1, 1) := by decide +kernel
theorem dX11_again_42 : decode cX11_again 42 = .ok (.iconst 1, 1) := by decide +kernel
theorem dX11_again_43 : decode cX11_again 43 = .ok (.iadd, 1) := by decide +kernel
theorem dX11_again_44 : decode cX11_again 44 = .ok (.imul, 1) := by decide +kernel
theorem dX11_again_45 : decode cX11_again 45 = .ok (.iload_n 2, 1) := by decide +kernel
theorem dX11_again_46 : decode cX11_again 46 = .ok (.iadd, 1) := by decide +kernel
theorem dX11_again_47 : decode cX11_again 47 = .ok (.iaload, 1) := by decide +kernel
theorem dX11_again_48 : decode cX11_again 48 = .ok (.iastore, 1) := by decide +kernel
theorem dX11_again_49 : decode cX11_again 49 = .ok (.iinc 2 1, 3) := by decide +kernel
theorem dX11_again_52 : decode cX11_again 52 = .ok (.goto (-30), 3) := by decide +kernel
theorem dX11_again_55 : decode cX11_again 55 = .ok (.iconst 0, 1) := by decide +kernel
theorem dX11_again_56 : decode cX11_again 56 = .ok (.istore_n 2, 1) := by decide +kernel
theorem dX11_again_57 : decode cX11_again 57 = .ok (.iload_n 2, 1) := by decide +kernel
theorem dX11_again_58 : decode cX11_again 58 = .ok (.bipush 12, 2) := by decide +kernel
theorem dX11_again_60 : decode cX11_again 60 = .ok (.if_icmp .ge 28, 3) := by decide +kernel
theorem dX11_again_63 : decode cX11_again 63 = .ok (.aload_n 0, 1) := by decide +kernel
theorem dX11_again_64 : decode cX11_again 64 = .ok (.getfield 13, 3) := by decide +kernel
theorem dX11_again_67 : decode cX11_again 67 = .ok (.iload_n 2, 1) := by decide +kernel
theorem dX11_again_68 : decode cX11_again 68 = .ok (.aload_n 0, 1) := by decide +kernel
theorem dX11_again_69 : decode cX11_again 69 = .ok (.getfield 13, 3) := by decide +kernel
theorem dX11_again_72 : decode cX11_again 72 = .ok (.bipush 12, 2) := by decide +kernel
theorem dX11_again_74 : decode cX11_again 74 = .ok (.iload_n 1, 1) := by decide +kernel
theorem dX11_again_75 : decode cX11_again 75 = .ok (.iconst 1, 1) := by decide +kernel
theorem dX11_again_76 : decode cX11_again 76 = .ok (.iadd, 1) := by decide +kernel
theorem dX11_again_77 : decode cX11_again 77 = .ok (.imul, 1) := by decide +kernel
theorem dX11_again_78 : decode cX11_again 78 = .ok (.iload_n 2, 1) := by decide +kernel
theorem dX11_again_79 : decode cX11_again 79 = .ok (.iadd, 1) := by decide +kernel
theorem dX11_again_80 : decode cX11_again 80 = .ok (.laload, 1) := by decide +kernel
theorem dX11_again_81 : decode cX11_again 81 = .ok (.lastore, 1) := by decide +kernel
theorem dX11_again_82 : decode cX11_again 82 = .ok (.iinc 2 1, 3) := by decide +kernel
theorem dX11_again_85 : decode cX11_again 85 = .ok (.goto (-28), 3) := by decide +kernel
theorem dX11_again_88 : decode cX11_again 88 = .ok (.iconst 1, 1) := by decide +kernel
theorem dX11_again_89 : decode cX11_again 89 = .ok (.ireturn, 1) := by decide +kernel
theorem dJ9_abs_0f7a4_0 : decode cJ9_abs_0f7a4 0 = .ok (.iload_n 0, 1) := by decide +kernel
theorem dJ9_abs_0f7a4_1 : decode cJ9_abs_0f7a4 1 = .ok (.ifCond .ge 8, 3) := by decide +kernel
theorem dJ9_abs_0f7a4_4 : decode cJ9_abs_0f7a4 4 = .ok (.iload_n 0, 1) := by decide +kernel
theorem dJ9_abs_0f7a4_5 : decode cJ9_abs_0f7a4 5 = .ok (.ineg, 1) := by decide +kernel
theorem dJ9_abs_0f7a4_6 : decode cJ9_abs_0f7a4 6 = .ok (.goto 4, 3) := by decide +kernel
theorem dJ9_abs_0f7a4_9 : decode cJ9_abs_0f7a4 9 = .ok (.iload_n 0, 1) := by decide +kernel
theorem dJ9_abs_0f7a4_10 : decode cJ9_abs_0f7a4 10 = .ok (.ireturn, 1) := by decide +kernel
theorem dJ9_max_7cf53_0 : decode cJ9_max_7cf53 0 = .ok (.iload_n 0, 1) := by decide +kernel
theorem dJ9_max_7cf53_1 : decode cJ9_max_7cf53 1 = .ok (.iload_n 1, 1) := by decide +kernel
theorem dJ9_max_7cf53_2 : decode cJ9_max_7cf53 2 = .ok (.if_icmp .lt 7, 3) := by decide +kernel
theorem dJ9_max_7cf53_5 : decode cJ9_max_7cf53 5 = .ok (.iload_n 0, 1) := by decide +kernel
theorem dJ9_max_7cf53_6 : decode cJ9_max_7cf53 6 = .ok (.goto 4, 3) := by decide +kernel
theorem dJ9_max_7cf53_9 : decode cJ9_max_7cf53 9 = .ok (.iload_n 1, 1) := by decide +kernel
theorem dJ9_max_7cf53_10 : decode cJ9_max_7cf53 10 = .ok (.ireturn, 1) := by decide +kernel
theorem dJ9_min_7cf53_0 : decode cJ9_min_7cf53 0 = .ok (.iload_n 0, 1) := by decide +kernel
theorem dJ9_min_7cf53_1 : decode cJ9_min_7cf53 1 = .ok (.iload_n 1, 1) := by decide +kernel
theorem dJ9_min_7cf53_2 : decode cJ9_min_7cf53 2 = .ok (.if_icmp .gt 7, 3) := by decide +kernel
theorem dJ9_min_7cf53_5 : decode cJ9_min_7cf53 5 = .ok (.iload_n 0, 1) := by decide +kernel
theorem dJ9_min_7cf53_6 : decode cJ9_min_7cf53 6 = .ok (.goto 4, 3) := by decide +kernel
theorem dJ9_min_7cf53_9 : decode cJ9_min_7cf53 9 = .ok (.iload_n 1, 1) := by decide +kernel
theorem dJ9_min_7cf53_10 : decode cJ9_min_7cf53 10 = .ok (.ireturn, 1) := by decide +kernel
theorem dJ0_length_8abf5_0 : decode cJ0_length_8abf5 0 = .ok (.aload_n 0, 1) := by decide +kernel
theorem dJ0_length_8abf5_1 : decode cJ0_length_8abf5 1 = .ok (.getfield 9, 3) := by decide +kernel
theorem dJ0_length_8abf5_4 : decode cJ0_length_8abf5 4 = .ok (.arraylength, 1) := by decide +kernel
theorem dJ0_length_8abf5_5 : decode cJ0_length_8abf5 5 = .ok (.aload_n 0, 1) := by decide +kernel
theorem dJ0_length_8abf5_6 : decode cJ0_length_8abf5 6 = .ok (.invokevirtual 335, 3) := by decide +kernel
theorem dJ0_length_8abf5_9 : decode cJ0_length_8abf5 9 = .ok (.ishr, 1) := by decide +kernel
theorem dJ0_length_8abf5_10 : decode cJ0_length_8abf5 10 = .ok (.ireturn, 1) := by decide +kernel
theorem dJ0_charAt_5068e_0 : decode cJ0_charAt_5068e 0 = .ok (.aload_n 0, 1) := by decide +kernel
theorem dJ0_charAt_5068e_1 : decode cJ0_charAt_5068e 1 = .ok (.invokevirtual 492, 3) := by decide +kernel
theorem dJ0_charAt_5068e_4 : decode cJ0_charAt_5068e 4 = .ok (.ifCond .eq 12, 3) := by decide +kernel
theorem dJ0_charAt_5068e_7 : decode cJ0_charAt_5068e 7 = .ok (.aload_n 0, 1) := by decide +kernel
theorem dJ0_charAt_5068e_8 : decode cJ0_charAt_5068e 8 = .ok (.getfield 9, 3) := by decide +kernel
theorem dJ0_charAt_5068e_11 : decode cJ0_charAt_5068e 11 = .ok (.iload_n 1, 1) := by decide +kernel
theorem dJ0_charAt_5068e_12 : decode cJ0_charAt_5068e 12 = .ok (.invokestatic 495, 3) := by decide +kernel
theorem dJ0_charAt_5068e_15 : decode cJ0_charAt_5068e 15 = .ok (.ireturn, 1) := by decide +kernel
theorem dJ0_charAt_5068e_16 : decode cJ0_charAt_5068e 16 = .ok (.aload_n 0, 1) := by decide +kernel
theorem dJ0_charAt_5068e_17 : decode cJ0_charAt_5068e 17 = .ok (.getfield 9, 3) := by decide +kernel
theorem dJ0_charAt_5068e_20 : decode cJ0_charAt_5068e 20 = .ok (.iload_n 1, 1) := by decide +kernel
theorem dJ0_charAt_5068e_21 : decode cJ0_charAt_5068e 21 = .ok (.invokestatic 498, 3) := by decide +kernel
theorem dJ0_charAt_5068e_24 : decode cJ0_charAt_5068e 24 = .ok (.ireturn, 1) := by decide +kernel
theorem dJ0_coder_7d493_0 : decode cJ0_coder_7d493 0 = .ok (.getstatic 38, 3) := by decide +kernel
theorem dJ0_coder_7d493_3 : decode cJ0_coder_7d493 3 = .ok (.ifCond .eq 10, 3) := by decide +kernel
theorem dJ0_coder_7d493_6 : decode cJ0_coder_7d493 6 = .ok (.aload_n 0, 1) := by decide +kernel
theorem dJ0_coder_7d493_7 : decode cJ0_coder_7d493 7 = .ok (.getfield 15, 3) := by decide +kernel
theorem dJ0_coder_7d493_10 : decode cJ0_coder_7d493 10 = .ok (.goto 4, 3) := by decide +kernel
theorem dJ0_coder_7d493_13 : decode cJ0_coder_7d493 13 = .ok (.iconst 1, 1) := by decide +kernel
theorem dJ0_coder_7d493_14 : decode cJ0_coder_7d493 14 = .ok (.ireturn, 1) := by decide +kernel
theorem dJ0_isLatin1_aae02_0 : decode cJ0_isLatin1_aae02 0 = .ok (.getstatic 38, 3) := by decide +kernel
theorem dJ0_isLatin1_aae02_3 : decode cJ0_isLatin1_aae02 3 = .ok (.ifCond .eq 14, 3) := by decide +kernel
theorem dJ0_isLatin1_aae02_6 : decode cJ0_isLatin1_aae02 6 = .ok (.aload_n 0, 1) := by decide +kernel
theorem dJ0_isLatin1_aae02_7 : decode cJ0_isLatin1_aae02 7 = .ok (.getfield 15, 3) := by decide +kernel
theorem dJ0_isLatin1_aae02_10 : decode cJ0_isLatin1_aae02 10 = .ok (.ifCond .ne 7, 3) := by decide +kernel
theorem dJ0_isLatin1_aae02_13 : decode cJ0_isLatin1_aae02 13 = .ok (.iconst 1, 1) := by decide +kernel
theorem dJ0_isLatin1_aae02_14 : decode cJ0_isLatin1_aae02 14 = .ok (.goto 4, 3) := by decide +kernel
theorem dJ0_isLatin1_aae02_17 : decode cJ0_isLatin1_aae02 17 = .ok (.iconst 0, 1) := by decide +kernel
theorem dJ0_isLatin1_aae02_18 : decode cJ0_isLatin1_aae02 18 = .ok (.ireturn, 1) := by decide +kernel
theorem dJ0_checkIndex_df160_0 : decode cJ0_checkIndex_df160 0 = .ok (.iload_n 0, 1) := by decide +kernel
theorem dJ0_checkIndex_df160_1 : decode cJ0_checkIndex_df160 1 = .ok (.iload_n 1, 1) := by decide +kernel
theorem dJ0_checkIndex_df160_2 : decode cJ0_checkIndex_df160 2 = .ok (.getstatic 1053, 3) := by decide +kernel
theorem dJ0_checkIndex_df160_5 : decode cJ0_checkIndex_df160 5 = .ok (.invokestatic 1059, 3) := by decide +kernel
theorem dJ0_checkIndex_df160_8 : decode cJ0_checkIndex_df160 8 = .ok (.pop, 1) := by decide +kernel
theorem dJ0_checkIndex_df160_9 : decode cJ0_checkIndex_df160 9 = .ok (.return_, 1) := by decide +kernel
theorem dJ1_charAt_3b067_0 : decode cJ1_charAt_3b067 0 = .ok (.iload_n 1, 1) := by decide +kernel
theorem dJ1_charAt_3b067_1 : decode cJ1_charAt_3b067 1 = .ok (.aload_n 0, 1) := by decide +kernel
theorem dJ1_charAt_3b067_2 : decode cJ1_charAt_3b067 2 = .ok (.arraylength, 1) := by decide +kernel
theorem dJ1_charAt_3b067_3 : decode cJ1_charAt_3b067 3 = .ok (.invokestatic 9, 3) := by decide +kernel
theorem dJ1_charAt_3b067_6 : decode cJ1_charAt_3b067 6 = .ok (.aload_n 0, 1) := by decide +kernel
theorem dJ1_charAt_3b067_7 : decode cJ1_charAt_3b067 7 = .ok (.iload_n 1, 1) := by decide +kernel
theorem dJ1_charAt_3b067_8 : decode cJ1_charAt_3b067 8 = .ok (.baload, 1) := by decide +kernel
theorem dJ1_charAt_3b067_9 : decode cJ1_charAt_3b067 9 = .ok (.sipush 255, 3) := by decide +kernel
theorem dJ1_charAt_3b067_12 : decode cJ1_charAt_3b067 12 = .ok (.iand, 1) := by decide +kernel
theorem dJ1_charAt_3b067_13 : decode cJ1_charAt_3b067 13 = .ok (.i2c, 1) := by decide +kernel
theorem dJ1_charAt_3b067_14 : decode cJ1_charAt_3b067 14 = .ok (.ireturn, 1) := by decide +kernel
theorem dJ2_getChar_3b067_0 : decode cJ2_getChar_3b067 0 = .ok (.getstatic 44, 3) := by decide +kernel
theorem dJ2_getChar_3b067_3 : decode cJ2_getChar_3b067 3 = .ok (.ifCond .ne 25, 3) := by decide +kernel
theorem dJ2_getChar_3b067_6 : decode cJ2_getChar_3b067 6 = .ok (.iload_n 1, 1) := by decide +kernel
theorem dJ2_getChar_3b067_7 : decode cJ2_getChar_3b067 7 = .ok (.ifCond .lt 11, 3) := by decide +kernel
theorem dJ2_getChar_3b067_10 : decode cJ2_getChar_3b067 10 = .ok (.iload_n 1, 1) := by decide +kernel
theorem dJ2_getChar_3b067_11 : decode cJ2_getChar_3b067 11 = .ok (.aload_n 0, 1) := by decide +kernel
theorem dJ2_getChar_3b067_12 : decode cJ2_getChar_3b067 12 = .ok (.invokestatic 48, 3) := by decide +kernel
theorem dJ2_getChar_3b067_15 : decode cJ2_getChar_3b067 15 = .ok (.if_icmp .lt 13, 3) := by decide +kernel
theorem dJ2_getChar_3b067_18 : decode cJ2_getChar_3b067 18 = .ok (.new 52, 3) := by decide +kernel
theorem dJ2_getChar_3b067_21 : decode cJ2_getChar_3b067 21 = .ok (.dup, 1) := by decide +kernel
theorem dJ2_getChar_3b067_22 : decode cJ2_getChar_3b067 22 = .ok (.ldc 54, 2) := by decide +kernel
theorem dJ2_getChar_3b067_24 : decode cJ2_getChar_3b067 24 = .ok (.invokespecial 56, 3) := by decide +kernel
theorem dJ2_getChar_3b067_27 : decode cJ2_getChar_3b067 27 = .ok (.athrow, 1) := by decide +kernel
theorem dJ2_getChar_3b067_28 : decode cJ2_getChar_3b067 28 = .ok (.iload_n 1, 1) := by decide +kernel
theorem dJ2_getChar_3b067_29 : decode cJ2_getChar_3b067 29 = .ok (.iconst 1, 1) := by decide +kernel
theorem dJ2_getChar_3b067_30 : decode cJ2_getChar_3b067 30 = .ok (.ishl, 1) := by decide +kernel
theorem dJ2_getChar_3b067_31 : decode cJ2_getChar_3b067 31 = .ok (.istore_n 1, 1) := by decide +kernel
theorem dJ2_getChar_3b067_32 : decode cJ2_getChar_3b067 32 = .ok (.aload_n 0, 1) := by decide +kernel
theorem dJ2_getChar_3b067_33 : decode cJ2_getChar_3b067 33 = .ok (.iload_n 1, 1) := by decide +kernel
theorem dJ2_getChar_3b067_34 : decode cJ2_getChar_3b067 34 = .ok (.iinc 1 1, 3) := by decide +kernel
theorem dJ2_getChar_3b067_37 : decode cJ2_getChar_3b067 37 = .ok (.baload, 1) := by decide +kernel
theorem dJ2_getChar_3b067_38 : decode cJ2_getChar_3b067 38 = .ok (.sipush 255, 3) := by decide +kernel
theorem dJ2_getChar_3b067_41 : decode cJ2_getChar_3b067 41 = .ok (.iand, 1) := by decide +kernel
theorem dJ2_getChar_3b067_42 : decode cJ2_getChar_3b067 42 = .ok (.getstatic 59, 3) := by decide +kernel
theorem dJ2_getChar_3b067_45 : decode cJ2_getChar_3b067 45 = .ok (.ishl, 1) := by decide +kernel
theorem dJ2_getChar_3b067_46 : decode cJ2_getChar_3b067 46 = .ok (.aload_n 0, 1) := by decide +kernel
theorem dJ2_getChar_3b067_47 : decode cJ2_getChar_3b067 47 = .ok (.iload_n 1, 1) := by decide +kernel
theorem dJ2_getChar_3b067_48 : decode cJ2_getChar_3b067 48 = .ok (.baload, 1) := by decide +kernel
theorem dJ2_getChar_3b067_49 : decode cJ2_getChar_3b067 49 = .ok (.sipush 255, 3) := by decide +kernel
theorem dJ2_getChar_3b067_52 : decode cJ2_getChar_3b067 52 = .ok (.iand, 1) := by decide +kernel
theorem dJ2_getChar_3b067_53 : decode cJ2_getChar_3b067 53 = .ok (.getstatic 63, 3) := by decide +kernel
theorem dJ2_getChar_3b067_56 : decode cJ2_getChar_3b067 56 = .ok (.ishl, 1) := by decide +kernel
theorem dJ2_getChar_3b067_57 : decode cJ2_getChar_3b067 57 = .ok (.ior, 1) := by decide +kernel
theorem dJ2_getChar_3b067_58 : decode cJ2_getChar_3b067 58 = .ok (.i2c, 1) := by decide +kernel
theorem dJ2_getChar_3b067_59 : decode cJ2_getChar_3b067 59 = .ok (.ireturn, 1) := by decide +kernel
theorem dJ2_length_9d52b_0 : decode cJ2_length_9d52b 0 = .ok (.aload_n 0, 1) := by decide +kernel
theorem dJ2_length_9d52b_1 : decode cJ2_length_9d52b 1 = .ok (.arraylength, 1) := by decide +kernel
theorem dJ2_length_9d52b_2 : decode cJ2_length_9d52b 2 = .ok (.iconst 1, 1) := by decide +kernel
theorem dJ2_length_9d52b_3 : decode cJ2_length_9d52b 3 = .ok (.ishr, 1) := by decide +kernel
theorem dJ2_length_9d52b_4 : decode cJ2_length_9d52b 4 = .ok (.ireturn, 1) := by decide +kernel
theorem dJ2_charAt_3b067_0 : decode cJ2_charAt_3b067 0 = .ok (.iload_n 1, 1) := by decide +kernel
theorem dJ2_charAt_3b067_1 : decode cJ2_charAt_3b067 1 = .ok (.aload_n 0, 1) := by decide +kernel
theorem dJ2_charAt_3b067_2 : decode cJ2_charAt_3b067 2 = .ok (.invokestatic 67, 3) := by decide +kernel
theorem dJ2_charAt_3b067_5 : decode cJ2_charAt_3b067 5 = .ok (.aload_n 0, 1) := by decide +kernel
theorem dJ2_charAt_3b067_6 : decode cJ2_charAt_3b067 6 = .ok (.iload_n 1, 1) := by decide +kernel
theorem dJ2_charAt_3b067_7 : decode cJ2_charAt_3b067 7 = .ok (.invokestatic 71, 3) := by decide +kernel
theorem dJ2_charAt_3b067_10 : decode cJ2_charAt_3b067 10 = .ok (.ireturn, 1) := by decide +kernel
theorem dJ2_checkIndex_2214a_0 : decode cJ2_checkIndex_2214a 0 = .ok (.iload_n 0, 1) := by decide +kernel
theorem dJ2_checkIndex_2214a_1 : decode cJ2_checkIndex_2214a 1 = .ok (.aload_n 1, 1) := by decide +kernel
theorem dJ2_checkIndex_2214a_2 : decode cJ2_checkIndex_2214a 2 = .ok (.invokestatic 48, 3) := by decide +kernel
theorem dJ2_checkIndex_2214a_5 : decode cJ2_checkIndex_2214a 5 = .ok (.invokestatic 414, 3) := by decide +kernel
theorem dJ2_checkIndex_2214a_8 : decode cJ2_checkIndex_2214a 8 = .ok (.return_, 1) := by decide +kernel
theorem dJ7_fill_53178_0 : decode cJ7_fill_53178 0 = .ok (.iconst 0, 1) := by decide +kernel
theorem dJ7_fill_53178_1 : decode cJ7_fill_53178 1 = .ok (.istore_n 2, 1) := by decide +kernel
theorem dJ7_fill_53178_2 : decode cJ7_fill_53178 2 = .ok (.aload_n 0, 1) := by decide +kernel
theorem dJ7_fill_53178_3 : decode cJ7_fill_53178 3 = .ok (.arraylength, 1) := by decide +kernel
theorem dJ7_fill_53178_4 : decode cJ7_fill_53178 4 = .ok (.istore_n 3, 1) := by decide +kernel
theorem dJ7_fill_53178_5 : decode cJ7_fill_53178 5 = .ok (.iload_n 2, 1) := by decide +kernel
theorem dJ7_fill_53178_6 : decode cJ7_fill_53178 6 = .ok (.iload_n 3, 1) := by decide +kernel
theorem dJ7_fill_53178_7 : decode cJ7_fill_53178 7 = .ok (.if_icmp .ge 13, 3) := by decide +kernel
theorem dJ7_fill_53178_10 : decode cJ7_fill_53178 10 = .ok (.aload_n 0, 1) := by decide +kernel
theorem dJ7_fill_53178_11 : decode cJ7_fill_53178 11 = .ok (.iload_n 2, 1) := by decide +kernel
theorem dJ7_fill_53178_12 : decode cJ7_fill_53178 12 = .ok (.iload_n 1, 1) := by decide +kernel
theorem dJ7_fill_53178_13 : decode cJ7_fill_53178 13 = .ok (.iastore, 1) := by decide +kernel
theorem dJ7_fill_53178_14 : decode cJ7_fill_53178 14 = .ok (.iinc 2 1, 3) := by decide +kernel
theorem dJ7_fill_53178_17 : decode cJ7_fill_53178 17 = .ok (.goto (-12), 3) := by decide +kernel
theorem dJ7_fill_53178_20 : decode cJ7_fill_53178 20 = .ok (.return_, 1) := by decide +kernel
theorem dJ3_checkIndex_8e157_0 : decode cJ3_checkIndex_8e157 0 = .ok (.iload_n 0, 1) := by decide +kernel
theorem dJ3_checkIndex_8e157_1 : decode cJ3_checkIndex_8e157 1 = .ok (.ifCond .lt 8, 3) := by decide +kernel
theorem dJ3_checkIndex_8e157_4 : decode cJ3_checkIndex_8e157 4 = .ok (.iload_n 0, 1) := by decide +kernel
theorem dJ3_checkIndex_8e157_5 : decode cJ3_checkIndex_8e157 5 = .ok (.iload_n 1, 1) := by decide +kernel
theorem dJ3_checkIndex_8e157_6 : decode cJ3_checkIndex_8e157 6 = .ok (.if_icmp .lt 10, 3) := by decide +kernel
theorem dJ3_checkIndex_8e157_9 : decode cJ3_checkIndex_8e157 9 = .ok (.aload_n 2, 1) := by decide +kernel
theorem dJ3_checkIndex_8e157_10 : decode cJ3_checkIndex_8e157 10 = .ok (.iload_n 0, 1) := by decide +kernel
theorem dJ3_checkIndex_8e157_11 : decode cJ3_checkIndex_8e157 11 = .ok (.iload_n 1, 1) := by decide +kernel
theorem dJ3_checkIndex_8e157_12 : decode cJ3_checkIndex_8e157 12 = .ok (.invokestatic 95, 3) := by decide +kernel
theorem dJ3_checkIndex_8e157_15 : decode cJ3_checkIndex_8e157 15 = .ok (.athrow, 1) := by decide +kernel
theorem dJ3_checkIndex_8e157_16 : decode cJ3_checkIndex_8e157 16 = .ok (.iload_n 0, 1) := by decide +kernel
theorem dJ3_checkIndex_8e157_17 : decode cJ3_checkIndex_8e157 17 = .ok (.ireturn, 1) := by decide +kernel
theorem dL_law_0 : decode cL_law 0 = .ok (.new 7, 3) := by decide +kernel
theorem dL_law_3 : decode cL_law 3 = .ok (.dup, 1) := by decide +kernel
theorem dL_law_4 : decode cL_law 4 = .ok (.invokespecial 9, 3) := by decide +kernel
theorem dL_law_7 : decode cL_law 7 = .ok (.astore_n 1, 1) := by decide +kernel
theorem dL_law_8 : decode cL_law 8 = .ok (.new 10, 3) := by decide +kernel
theorem dL_law_11 : decode cL_law 11 = .ok (.dup, 1) := by decide +kernel
theorem dL_law_12 : decode cL_law 12 = .ok (.invokespecial 12, 3) := by decide +kernel
theorem dL_law_15 : decode cL_law 15 = .ok (.astore_n 2, 1) := by decide +kernel
theorem dL_law_16 : decode cL_law 16 = .ok (.iconst 0, 1) := by decide +kernel
theorem dL_law_17 : decode cL_law 17 = .ok (.istore_n 3, 1) := by decide +kernel
theorem dL_law_18 : decode cL_law 18 = .ok (.iload_n 3, 1) := by decide +kernel
theorem dL_law_19 : decode cL_law 19 = .ok (.aload_n 0, 1) := by decide +kernel
theorem dL_law_20 : decode cL_law 20 = .ok (.arraylength, 1) := by decide +kernel
theorem dL_law_21 : decode cL_law 21 = .ok (.bipush 7, 2) := by decide +kernel
theorem dL_law_23 : decode cL_law 23 = .ok (.isub, 1) := by decide +kernel
theorem dL_law_24 : decode cL_law 24 = .ok (.if_icmp .gt 805, 3) := by decide +kernel
theorem dL_law_27 : decode cL_law 27 = .ok (.aload_n 0, 1) := by decide +kernel
theorem dL_law_28 : decode cL_law 28 = .ok (.iload_n 3, 1) := by decide +kernel
theorem dL_law_29 : decode cL_law 29 = .ok (.iaload, 1) := by decide +kernel
theorem dL_law_30 : decode cL_law 30 = .ok (.bipush 31, 2) := by decide +kernel
theorem dL_law_32 : decode cL_law 32 = .ok (.iand, 1) := by decide +kernel
theorem dL_law_33 : decode cL_law 33 = .ok (.tableswitch 790 0 20 #[99, 152, 215, 258, 281, 356, 369, 402, 435, 458, 481, 540, 563, 576, 639, 662, 675, 698, 721, 744, 767], 99) := by decide +kernel
theorem dL_law_132 : decode cL_law 132 = .ok (.aload_n 1, 1) := by decide +kernel
theorem dL_law_133 : decode cL_law 133 = .ok (.aload_n 0, 1) := by decide +kernel
theorem dL_law_134 : decode cL_law 134 = .ok (.iload_n 3, 1) := by decide +kernel
theorem dL_law_135 : decode cL_law 135 = .ok (.iconst 1, 1) := by decide +kernel
theorem dL_law_136 : decode cL_law 136 = .ok (.iadd, 1) := by decide +kernel
theorem dL_law_137 : decode cL_law 137 = .ok (.iaload, 1) := by decide +kernel
theorem dL_law_138 : decode cL_law 138 = .ok (.i2l, 1) := by decide +kernel
theorem dL_law_139 : decode cL_law 139 = .ok (.bipush 32, 2) := by decide +kernel
theorem dL_law_141 : decode cL_law 141 = .ok (.lshl, 1) := by decide +kernel
theorem dL_law_142 : decode cL_law 142 = .ok (.aload_n 0, 1) := by decide +kernel
theorem dL_law_143 : decode cL_law 143 = .ok (.iload_n 3, 1) := by decide +kernel
theorem dL_law_144 : decode cL_law 144 = .ok (.iconst 2, 1) := by decide +kernel
theorem dL_law_145 : decode cL_law 145 = .ok (.iadd, 1) := by decide +kernel
theorem dL_law_146 : decode cL_law 146 = .ok (.iaload, 1) := by decide +kernel
theorem dL_law_147 : decode cL_law 147 = .ok (.i2l, 1) := by decide +kernel
theorem dL_law_148 : decode cL_law 148 = .ok (.ldc2_w 13, 3) := by decide +kernel
theorem dL_law_151 : decode cL_law 151 = .ok (.land, 1) := by decide +kernel
theorem dL_law_152 : decode cL_law 152 = .ok (.lor, 1) := by decide +kernel
theorem dL_law_153 : decode cL_law 153 = .ok (.invokevirtual 15, 3) := by decide +kernel
theorem dL_law_156 : decode cL_law 156 = .ok (.aload_n 2, 1) := by decide +kernel
theorem dL_law_157 : decode cL_law 157 = .ok (.aload_n 0, 1) := by decide +kernel
theorem dL_law_158 : decode cL_law 158 = .ok (.iload_n 3, 1) := by decide +kernel
theorem dL_law_159 : decode cL_law 159 = .ok (.iconst 1, 1) := by decide +kernel
theorem dL_law_160 : decode cL_law 160 = .ok (.iadd, 1) := by decide +kernel
theorem dL_law_161 : decode cL_law 161 = .ok (.iaload, 1) := by decide +kernel
theorem dL_law_162 : decode cL_law 162 = .ok (.i2l, 1) := by decide +kernel
theorem dL_law_163 : decode cL_law 163 = .ok (.bipush 32, 2) := by decide +kernel
theorem dL_law_165 : decode cL_law 165 = .ok (.lshl, 1) := by decide +kernel
theorem dL_law_166 : decode cL_law 166 = .ok (.aload_n 0, 1) := by decide +kernel
theorem dL_law_167 : decode cL_law 167 = .ok (.iload_n 3, 1) := by decide +kernel
theorem dL_law_168 : decode cL_law 168 = .ok (.iconst 2, 1) := by decide +kernel
theorem dL_law_169 : decode cL_law 169 = .ok (.iadd, 1) := by decide +kernel
theorem dL_law_170 : decode cL_law 170 = .ok (.iaload, 1) := by decide +kernel
theorem dL_law_171 : decode cL_law 171 = .ok (.i2l, 1) := by decide +kernel
theorem dL_law_172 : decode cL_law 172 = .ok (.ldc2_w 13, 3) := by decide +kernel
theorem dL_law_175 : decode cL_law 175 = .ok (.land, 1) := by decide +kernel
theorem dL_law_176 : decode cL_law 176 = .ok (.lor, 1) := by decide +kernel
theorem dL_law_177 : decode cL_law 177 = .ok (.invokevirtual 19, 3) := by decide +kernel
theorem dL_law_180 : decode cL_law 180 = .ok (.if_icmp .eq 643, 3) := by decide +kernel
theorem dL_law_183 : decode cL_law 183 = .ok (.iconst 0, 1) := by decide +kernel
theorem dL_law_184 : decode cL_law 184 = .ok (.ireturn, 1) := by decide +kernel
theorem dL_law_185 : decode cL_law 185 = .ok (.aload_n 1, 1) := by decide +kernel
theorem dL_law_186 : decode cL_law 186 = .ok (.aload_n 0, 1) := by decide +kernel
theorem dL_law_187 : decode cL_law 187 = .ok (.iload_n 3, 1) := by decide +kernel
theorem dL_law_188 : decode cL_law 188 = .ok (.iconst 1, 1) := by decide +kernel
theorem dL_law_189 : decode cL_law 189 = .ok (.iadd, 1) := by decide +kernel
theorem dL_law_190 : decode cL_law 190 = .ok (.iaload, 1) := by decide +kernel
theorem dL_law_191 : decode cL_law 191 = .ok (.i2l, 1) := by decide +kernel
theorem dL_law_192 : decode cL_law 192 = .ok (.bipush 32, 2) := by decide +kernel
theorem dL_law_194 : decode cL_law 194 = .ok (.lshl, 1) := by decide +kernel
theorem dL_law_195 : decode cL_law 195 = .ok (.aload_n 0, 1) := by decide +kernel
theorem dL_law_196 : decode cL_law 196 = .ok (.iload_n 3, 1) := by decide +kernel
theorem dL_law_197 : decode cL_law 197 = .ok (.iconst 2, 1) := by decide +kernel
theorem dL_law_198 : decode cL_law 198 = .ok (.iadd, 1) := by decide +kernel
theorem dL_law_199 : decode cL_law 199 = .ok (.iaload, 1) := by decide +kernel
theorem dL_law_200 : decode cL_law 200 = .ok (.i2l, 1) := by decide +kernel
theorem dL_law_201 : decode cL_law 201 = .ok (.ldc2_w 13, 3) := by decide +kernel
theorem dL_law_204 : decode cL_law 204 = .ok (.land, 1) := by decide +kernel
theorem dL_law_205 : decode cL_law 205 = .ok (.lor, 1) := by decide +kernel
theorem dL_law_206 : decode cL_law 206 = .ok (.aload_n 0, 1) := by decide +kernel
theorem dL_law_207 : decode cL_law 207 = .ok (.iload_n 3, 1) := by decide +kernel
theorem dL_law_208 : decode cL_law 208 = .ok (.iconst 3, 1) := by decide +kernel
theorem dL_law_209 : decode cL_law 209 = .ok (.iadd, 1) := by decide +kernel
theorem dL_law_210 : decode cL_law 210 = .ok (.iaload, 1) := by decide +kernel
theorem dL_law_211 : decode cL_law 211 = .ok (.invokevirtual 20, 3) := by decide +kernel
theorem dL_law_214 : decode cL_law 214 = .ok (.aload_n 2, 1) := by decide +kernel
theorem dL_law_215 : decode cL_law 215 = .ok (.aload_n 0, 1) := by decide +kernel
theorem dL_law_216 : decode cL_law 216 = .ok (.iload_n 3, 1) := by decide +kernel
theorem dL_law_217 : decode cL_law 217 = .ok (.iconst 1, 1) := by decide +kernel
theorem dL_law_218 : decode cL_law 218 = .ok (.iadd, 1) := by decide +kernel
theorem dL_law_219 : decode cL_law 219 = .ok (.iaload, 1) := by decide +kernel
theorem dL_law_220 : decode cL_law 220 = .ok (.i2l, 1) := by decide +kernel
theorem dL_law_221 : decode cL_law 221 = .ok (.bipush 32, 2) := by decide +kernel
theorem dL_law_223 : decode cL_law 223 = .ok (.lshl, 1) := by decide +kernel
theorem dL_law_224 : decode cL_law 224 = .ok (.aload_n 0, 1) := by decide +kernel
theorem dL_law_225 : decode cL_law 225 = .ok (.iload_n 3, 1) := by decide +kernel
theorem dL_law_226 : decode cL_law 226 = .ok (.iconst 2, 1) := by decide +kernel
theorem dL_law_227 : decode cL_law 227 = .ok (.iadd, 1) := by decide +kernel
theorem dL_law_228 : decode cL_law 228 = .ok (.iaload, 1) := by decide +kernel
theorem dL_law_229 : decode cL_law 229 = .ok (.i2l, 1) := by decide +kernel
theorem dL_law_230 : decode cL_law 230 = .ok (.ldc2_w 13, 3) := by decide +kernel
theorem dL_law_233 : decode cL_law 233 = .ok (.land, 1) := by decide +kernel
theorem dL_law_234 : decode cL_law 234 = .ok (.lor, 1) := by decide +kernel
theorem dL_law_235 : decode cL_law 235 = .ok (.aload_n 0, 1) := by decide +kernel
theorem dL_law_236 : decode cL_law 236 = .ok (.iload_n 3, 1) := by decide +kernel
theorem dL_law_237 : decode cL_law 237 = .ok (.iconst 3, 1) := by decide +kernel
theorem dL_law_238 : decode cL_law 238 = .ok (.iadd, 1) := by decide +kernel
theorem dL_law_239 : decode cL_law 239 = .ok (.iaload, 1) := by decide +kernel
theorem dL_law_240 : decode cL_law 240 = .ok (.invokevirtual 24, 3) := by decide +kernel
theorem dL_law_243 : decode cL_law 243 = .ok (.if_icmp .eq 580, 3) := by decide +kernel
theorem dL_law_246 : decode cL_law 246 = .ok (.iconst 0, 1) := by decide +kernel
theorem dL_law_247 : decode cL_law 247 = .ok (.ireturn, 1) := by decide +kernel
theorem dL_law_248 : decode cL_law 248 = .ok (.aload_n 1, 1) := by decide +kernel
theorem dL_law_249 : decode cL_law 249 = .ok (.aload_n 0, 1) := by decide +kernel
theorem dL_law_250 : decode cL_law 250 = .ok (.iload_n 3, 1) := by decide +kernel
theorem dL_law_251 : decode cL_law 251 = .ok (.iconst 1, 1) := by decide +kernel
theorem dL_law_252 : decode cL_law 252 = .ok (.iadd, 1) := by decide +kernel
theorem dL_law_253 : decode cL_law 253 = .ok (.iaload, 1) := by decide +kernel
theorem dL_law_254 : decode cL_law 254 = .ok (.aload_n 0, 1) := by decide +kernel
theorem dL_law_255 : decode cL_law 255 = .ok (.iload_n 3, 1) := by decide +kernel
theorem dL_law_256 : decode cL_law 256 = .ok (.iconst 2, 1) := by decide +kernel
theorem dL_law_257 : decode cL_law 257 = .ok (.iadd, 1) := by decide +kernel
theorem dL_law_258 : decode cL_law 258 = .ok (.iaload, 1) := by decide +kernel
theorem dL_law_259 : decode cL_law 259 = .ok (.aload_n 0, 1) := by decide +kernel
theorem dL_law_260 : decode cL_law 260 = .ok (.iload_n 3, 1) := by decide +kernel
theorem dL_law_261 : decode cL_law 261 = .ok (.iconst 3, 1) := by decide +kernel
theorem dL_law_262 : decode cL_law 262 = .ok (.iadd, 1) := by decide +kernel
theorem dL_law_263 : decode cL_law 263 = .ok (.iaload, 1) := by decide +kernel
theorem dL_law_264 : decode cL_law 264 = .ok (.invokevirtual 25, 3) := by decide +kernel
theorem dL_law_267 : decode cL_law 267 = .ok (.aload_n 2, 1) := by decide +kernel
theorem dL_law_268 : decode cL_law 268 = .ok (.aload_n 0, 1) := by decide +kernel
theorem dL_law_269 : decode cL_law 269 = .ok (.iload_n 3, 1) := by decide +kernel
theorem dL_law_270 : decode cL_law 270 = .ok (.iconst 1, 1) := by decide +kernel
theorem dL_law_271 : decode cL_law 271 = .ok (.iadd, 1) := by decide +kernel
theorem dL_law_272 : decode cL_law 272 = .ok (.iaload, 1) := by decide +kernel
theorem dL_law_273 : decode cL_law 273 = .ok (.aload_n 0, 1) := by decide +kernel
theorem dL_law_274 : decode cL_law 274 = .ok (.iload_n 3, 1) := by decide +kernel
theorem dL_law_275 : decode cL_law 275 = .ok (.iconst 2, 1) := by decide +kernel
theorem dL_law_276 : decode cL_law 276 = .ok (.iadd, 1) := by decide +kernel
theorem dL_law_277 : decode cL_law 277 = .ok (.iaload, 1) := by decide +kernel
theorem dL_law_278 : decode cL_law 278 = .ok (.aload_n 0, 1) := by decide +kernel
theorem dL_law_279 : decode cL_law 279 = .ok (.iload_n 3, 1) := by decide +kernel
theorem dL_law_280 : decode cL_law 280 = .ok (.iconst 3, 1) := by decide +kernel
theorem dL_law_281 : decode cL_law 281 = .ok (.iadd, 1) := by decide +kernel
theorem dL_law_282 : decode cL_law 282 = .ok (.iaload, 1) := by decide +kernel
theorem dL_law_283 : decode cL_law 283 = .ok (.invokevirtual 29, 3) := by decide +kernel
theorem dL_law_286 : decode cL_law 286 = .ok (.if_icmp .eq 537, 3) := by decide +kernel
theorem dL_law_289 : decode cL_law 289 = .ok (.iconst 0, 1) := by decide +kernel
theorem dL_law_290 : decode cL_law 290 = .ok (.ireturn, 1) := by decide +kernel
theorem dL_law_291 : decode cL_law 291 = .ok (.aload_n 1, 1) := by decide +kernel
theorem dL_law_292 : decode cL_law 292 = .ok (.aload_n 0, 1) := by decide +kernel
theorem dL_law_293 : decode cL_law 293 = .ok (.iload_n 3, 1) := by decide +kernel
theorem dL_law_294 : decode cL_law 294 = .ok (.iconst 1, 1) := by decide +kernel
theorem dL_law_295 : decode cL_law 295 = .ok (.iadd, 1) := by decide +kernel
theorem dL_law_296 : decode cL_law 296 = .ok (.iaload, 1) := by decide +kernel
theorem dL_law_297 : decode cL_law 297 = .ok (.invokevirtual 30, 3) := by decide +kernel
theorem dL_law_300 : decode cL_law 300 = .ok (.aload_n 2, 1) := by decide +kernel
theorem dL_law_301 : decode cL_law 301 = .ok (.aload_n 0, 1) := by decide +kernel
theorem dL_law_302 : decode cL_law 302 = .ok (.iload_n 3, 1) := by decide +kernel
theorem dL_law_303 : decode cL_law 303 = .ok (.iconst 1, 1) := by decide +kernel
theorem dL_law_304 : decode cL_law 304 = .ok (.iadd, 1) := by decide +kernel
theorem dL_law_305 : decode cL_law 305 = .ok (.iaload, 1) := by decide +kernel
theorem dL_law_306 : decode cL_law 306 = .ok (.invokevirtual 34, 3) := by decide +kernel
theorem dL_law_309 : decode cL_law 309 = .ok (.if_icmp .eq 514, 3) := by decide +kernel
theorem dL_law_312 : decode cL_law 312 = .ok (.iconst 0, 1) := by decide +kernel
theorem dL_law_313 : decode cL_law 313 = .ok (.ireturn, 1) := by decide +kernel
theorem dL_law_314 : decode cL_law 314 = .ok (.aload_n 1, 1) := by decide +kernel
theorem dL_law_315 : decode cL_law 315 = .ok (.aload_n 0, 1) := by decide +kernel
theorem dL_law_316 : decode cL_law 316 = .ok (.iload_n 3, 1) := by decide +kernel
theorem dL_law_317 : decode cL_law 317 = .ok (.iconst 1, 1) := by decide +kernel
theorem dL_law_318 : decode cL_law 318 = .ok (.iadd, 1) := by decide +kernel
theorem dL_law_319 : decode cL_law 319 = .ok (.iaload, 1) := by decide +kernel
theorem dL_law_320 : decode cL_law 320 = .ok (.aload_n 0, 1) := by decide +kernel
theorem dL_law_321 : decode cL_law 321 = .ok (.iload_n 3, 1) := by decide +kernel
theorem dL_law_322 : decode cL_law 322 = .ok (.iconst 2, 1) := by decide +kernel
theorem dL_law_323 : decode cL_law 323 = .ok (.iadd, 1) := by decide +kernel
theorem dL_law_324 : decode cL_law 324 = .ok (.iaload, 1) := by decide +kernel
theorem dL_law_325 : decode cL_law 325 = .ok (.aload_n 0, 1) := by decide +kernel
theorem dL_law_326 : decode cL_law 326 = .ok (.iload_n 3, 1) := by decide +kernel
theorem dL_law_327 : decode cL_law 327 = .ok (.iconst 3, 1) := by decide +kernel
theorem dL_law_328 : decode cL_law 328 = .ok (.iadd, 1) := by decide +kernel
theorem dL_law_329 : decode cL_law 329 = .ok (.iaload, 1) := by decide +kernel
theorem dL_law_330 : decode cL_law 330 = .ok (.aload_n 0, 1) := by decide +kernel
theorem dL_law_331 : decode cL_law 331 = .ok (.iload_n 3, 1) := by decide +kernel
theorem dL_law_332 : decode cL_law 332 = .ok (.iconst 4, 1) := by decide +kernel
theorem dL_law_333 : decode cL_law 333 = .ok (.iadd, 1) := by decide +kernel
theorem dL_law_334 : decode cL_law 334 = .ok (.iaload, 1) := by decide +kernel
theorem dL_law_335 : decode cL_law 335 = .ok (.aload_n 0, 1) := by decide +kernel
theorem dL_law_336 : decode cL_law 336 = .ok (.iload_n 3, 1) := by decide +kernel
theorem dL_law_337 : decode cL_law 337 = .ok (.iconst 5, 1) := by decide +kernel
theorem dL_law_338 : decode cL_law 338 = .ok (.iadd, 1) := by decide +kernel
theorem dL_law_339 : decode cL_law 339 = .ok (.iaload, 1) := by decide +kernel
theorem dL_law_340 : decode cL_law 340 = .ok (.aload_n 0, 1) := by decide +kernel
theorem dL_law_341 : decode cL_law 341 = .ok (.iload_n 3, 1) := by decide +kernel
theorem dL_law_342 : decode cL_law 342 = .ok (.bipush 6, 2) := by decide +kernel
theorem dL_law_344 : decode cL_law 344 = .ok (.iadd, 1) := by decide +kernel
theorem dL_law_345 : decode cL_law 345 = .ok (.iaload, 1) := by decide +kernel
theorem dL_law_346 : decode cL_law 346 = .ok (.invokevirtual 35, 3) := by decide +kernel
theorem dL_law_349 : decode cL_law 349 = .ok (.aload_n 2, 1) := by decide +kernel
theorem dL_law_350 : decode cL_law 350 = .ok (.aload_n 0, 1) := by decide +kernel
theorem dL_law_351 : decode cL_law 351 = .ok (.iload_n 3, 1) := by decide +kernel
theorem dL_law_352 : decode cL_law 352 = .ok (.iconst 1, 1) := by decide +kernel
theorem dL_law_353 : decode cL_law 353 = .ok (.iadd, 1) := by decide +kernel
theorem dL_law_354 : decode cL_law 354 = .ok (.iaload, 1) := by decide +kernel
theorem dL_law_355 : decode cL_law 355 = .ok (.aload_n 0, 1) := by decide +kernel
theorem dL_law_356 : decode cL_law 356 = .ok (.iload_n 3, 1) := by decide +kernel
theorem dL_law_357 : decode cL_law 357 = .ok (.iconst 2, 1) := by decide +kernel
theorem dL_law_358 : decode cL_law 358 = .ok (.iadd, 1) := by decide +kernel
theorem dL_law_359 : decode cL_law 359 = .ok (.iaload, 1) := by decide +kernel
theorem dL_law_360 : decode cL_law 360 = .ok (.aload_n 0, 1) := by decide +kernel
theorem dL_law_361 : decode cL_law 361 = .ok (.iload_n 3, 1) := by decide +kernel
theorem dL_law_362 : decode cL_law 362 = .ok (.iconst 3, 1) := by decide +kernel
theorem dL_law_363 : decode cL_law 363 = .ok (.iadd, 1) := by decide +kernel
theorem dL_law_364 : decode cL_law 364 = .ok (.iaload, 1) := by decide +kernel
theorem dL_law_365 : decode cL_law 365 = .ok (.aload_n 0, 1) := by decide +kernel
theorem dL_law_366 : decode cL_law 366 = .ok (.iload_n 3, 1) := by decide +kernel
theorem dL_law_367 : decode cL_law 367 = .ok (.iconst 4, 1) := by decide +kernel
theorem dL_law_368 : decode cL_law 368 = .ok (.iadd, 1) := by decide +kernel
theorem dL_law_369 : decode cL_law 369 = .ok (.iaload, 1) := by decide +kernel
theorem dL_law_370 : decode cL_law 370 = .ok (.aload_n 0, 1) := by decide +kernel
theorem dL_law_371 : decode cL_law 371 = .ok (.iload_n 3, 1) := by decide +kernel
theorem dL_law_372 : decode cL_law 372 = .ok (.iconst 5, 1) := by decide +kernel
theorem dL_law_373 : decode cL_law 373 = .ok (.iadd, 1) := by decide +kernel
theorem dL_law_374 : decode cL_law 374 = .ok (.iaload, 1) := by decide +kernel
theorem dL_law_375 : decode cL_law 375 = .ok (.aload_n 0, 1) := by decide +kernel
theorem dL_law_376 : decode cL_law 376 = .ok (.iload_n 3, 1) := by decide +kernel
theorem dL_law_377 : decode cL_law 377 = .ok (.bipush 6, 2) := by decide +kernel
theorem dL_law_379 : decode cL_law 379 = .ok (.iadd, 1) := by decide +kernel
theorem dL_law_380 : decode cL_law 380 = .ok (.iaload, 1) := by decide +kernel
theorem dL_law_381 : decode cL_law 381 = .ok (.invokevirtual 39, 3) := by decide +kernel
theorem dL_law_384 : decode cL_law 384 = .ok (.if_icmp .eq 439, 3) := by decide +kernel
theorem dL_law_387 : decode cL_law 387 = .ok (.iconst 0, 1) := by decide +kernel
theorem dL_law_388 : decode cL_law 388 = .ok (.ireturn, 1) := by decide +kernel
theorem dL_law_389 : decode cL_law 389 = .ok (.aload_n 1, 1) := by decide +kernel
theorem dL_law_390 : decode cL_law 390 = .ok (.invokevirtual 40, 3) := by decide +kernel
theorem dL_law_393 : decode cL_law 393 = .ok (.aload_n 2, 1) := by decide +kernel
theorem dL_law_394 : decode cL_law 394 = .ok (.invokevirtual 44, 3) := by decide +kernel
theorem dL_law_397 : decode cL_law 397 = .ok (.if_icmp .eq 426, 3) := by decide +kernel
theorem dL_law_400 : decode cL_law 400 = .ok (.iconst 0, 1) := by decide +kernel
theorem dL_law_401 : decode cL_law 401 = .ok (.ireturn, 1) := by decide +kernel
theorem dL_law_402 : decode cL_law 402 = .ok (.aload_n 1, 1) := by decide +kernel
theorem dL_law_403 : decode cL_law 403 = .ok (.aload_n 0, 1) := by decide +kernel
theorem dL_law_404 : decode cL_law 404 = .ok (.iload_n 3, 1) := by decide +kernel
theorem dL_law_405 : decode cL_law 405 = .ok (.iconst 1, 1) := by decide +kernel
theorem dL_law_406 : decode cL_law 406 = .ok (.iadd, 1) := by decide +kernel
theorem dL_law_407 : decode cL_law 407 = .ok (.iaload, 1) := by decide +kernel
theorem dL_law_408 : decode cL_law 408 = .ok (.aload_n 0, 1) := by decide +kernel
theorem dL_law_409 : decode cL_law 409 = .ok (.iload_n 3, 1) := by decide +kernel
theorem dL_law_410 : decode cL_law 410 = .ok (.iconst 2, 1) := by decide +kernel
theorem dL_law_411 : decode cL_law 411 = .ok (.iadd, 1) := by decide +kernel
theorem dL_law_412 : decode cL_law 412 = .ok (.iaload, 1) := by decide +kernel
theorem dL_law_413 : decode cL_law 413 = .ok (.invokevirtual 45, 3) := by decide +kernel
theorem dL_law_416 : decode cL_law 416 = .ok (.aload_n 2, 1) := by decide +kernel
theorem dL_law_417 : decode cL_law 417 = .ok (.aload_n 0, 1) := by decide +kernel
theorem dL_law_418 : decode cL_law 418 = .ok (.iload_n 3, 1) := by decide +kernel
theorem dL_law_419 : decode cL_law 419 = .ok (.iconst 1, 1) := by decide +kernel
theorem dL_law_420 : decode cL_law 420 = .ok (.iadd, 1) := by decide +kernel
theorem dL_law_421 : decode cL_law 421 = .ok (.iaload, 1) := by decide +kernel
theorem dL_law_422 : decode cL_law 422 = .ok (.aload_n 0, 1) := by decide +kernel
theorem dL_law_423 : decode cL_law 423 = .ok (.iload_n 3, 1) := by decide +kernel
theorem dL_law_424 : decode cL_law 424 = .ok (.iconst 2, 1) := by decide +kernel
theorem dL_law_425 : decode cL_law 425 = .ok (.iadd, 1) := by decide +kernel
theorem dL_law_426 : decode cL_law 426 = .ok (.iaload, 1) := by decide +kernel
theorem dL_law_427 : decode cL_law 427 = .ok (.invokevirtual 49, 3) := by decide +kernel
theorem dL_law_430 : decode cL_law 430 = .ok (.if_icmp .eq 393, 3) := by decide +kernel
theorem dL_law_433 : decode cL_law 433 = .ok (.iconst 0, 1) := by decide +kernel
theorem dL_law_434 : decode cL_law 434 = .ok (.ireturn, 1) := by decide +kernel
theorem dL_law_435 : decode cL_law 435 = .ok (.aload_n 1, 1) := by decide +kernel
theorem dL_law_436 : decode cL_law 436 = .ok (.aload_n 0, 1) := by decide +kernel
theorem dL_law_437 : decode cL_law 437 = .ok (.iload_n 3, 1) := by decide +kernel
theorem dL_law_438 : decode cL_law 438 = .ok (.iconst 1, 1) := by decide +kernel
theorem dL_law_439 : decode cL_law 439 = .ok (.iadd, 1) := by decide +kernel
theorem dL_law_440 : decode cL_law 440 = .ok (.iaload, 1) := by decide +kernel
theorem dL_law_441 : decode cL_law 441 = .ok (.aload_n 0, 1) := by decide +kernel
theorem dL_law_442 : decode cL_law 442 = .ok (.iload_n 3, 1) := by decide +kernel
theorem dL_law_443 : decode cL_law 443 = .ok (.iconst 2, 1) := by decide +kernel
theorem dL_law_444 : decode cL_law 444 = .ok (.iadd, 1) := by decide +kernel
theorem dL_law_445 : decode cL_law 445 = .ok (.iaload, 1) := by decide +kernel
theorem dL_law_446 : decode cL_law 446 = .ok (.invokevirtual 50, 3) := by decide +kernel
theorem dL_law_449 : decode cL_law 449 = .ok (.aload_n 2, 1) := by decide +kernel
theorem dL_law_450 : decode cL_law 450 = .ok (.aload_n 0, 1) := by decide +kernel
theorem dL_law_451 : decode cL_law 451 = .ok (.iload_n 3, 1) := by decide +kernel
theorem dL_law_452 : decode cL_law 452 = .ok (.iconst 1, 1) := by decide +kernel
theorem dL_law_453 : decode cL_law 453 = .ok (.iadd, 1) := by decide +kernel
theorem dL_law_454 : decode cL_law 454 = .ok (.iaload, 1) := by decide +kernel
theorem dL_law_455 : decode cL_law 455 = .ok (.aload_n 0, 1) := by decide +kernel
theorem dL_law_456 : decode cL_law 456 = .ok (.iload_n 3, 1) := by decide +kernel
theorem dL_law_457 : decode cL_law 457 = .ok (.iconst 2, 1) := by decide +kernel
theorem dL_law_458 : decode cL_law 458 = .ok (.iadd, 1) := by decide +kernel
theorem dL_law_459 : decode cL_law 459 = .ok (.iaload, 1) := by decide +kernel
theorem dL_law_460 : decode cL_law 460 = .ok (.invokevirtual 53, 3) := by decide +kernel
theorem dL_law_463 : decode cL_law 463 = .ok (.if_icmp .eq 360, 3) := by decide +kernel
theorem dL_law_466 : decode cL_law 466 = .ok (.iconst 0, 1) := by decide +kernel
theorem dL_law_467 : decode cL_law 467 = .ok (.ireturn, 1) := by decide +kernel
theorem dL_law_468 : decode cL_law 468 = .ok (.aload_n 1, 1) := by decide +kernel
theorem dL_law_469 : decode cL_law 469 = .ok (.aload_n 0, 1) := by decide +kernel
theorem dL_law_470 : decode cL_law 470 = .ok (.iload_n 3, 1) := by decide +kernel
theorem dL_law_471 : decode cL_law 471 = .ok (.iconst 1, 1) := by decide +kernel
theorem dL_law_472 : decode cL_law 472 = .ok (.iadd, 1) := by decide +kernel
theorem dL_law_473 : decode cL_law 473 = .ok (.iaload, 1) := by decide +kernel
theorem dL_law_474 : decode cL_law 474 = .ok (.invokevirtual 54, 3) := by decide +kernel
theorem dL_law_477 : decode cL_law 477 = .ok (.aload_n 2, 1) := by decide +kernel
theorem dL_law_478 : decode cL_law 478 = .ok (.aload_n 0, 1) := by decide +kernel
theorem dL_law_479 : decode cL_law 479 = .ok (.iload_n 3, 1) := by decide +kernel
theorem dL_law_480 : decode cL_law 480 = .ok (.iconst 1, 1) := by decide +kernel
theorem dL_law_481 : decode cL_law 481 = .ok (.iadd, 1) := by decide +kernel
theorem dL_law_482 : decode cL_law 482 = .ok (.iaload, 1) := by decide +kernel
theorem dL_law_483 : decode cL_law 483 = .ok (.invokevirtual 58, 3) := by decide +kernel
theorem dL_law_486 : decode cL_law 486 = .ok (.if_icmp .eq 337, 3) := by decide +kernel
theorem dL_law_489 : decode cL_law 489 = .ok (.iconst 0, 1) := by decide +kernel
theorem dL_law_490 : decode cL_law 490 = .ok (.ireturn, 1) := by decide +kernel
theorem dL_law_491 : decode cL_law 491 = .ok (.aload_n 1, 1) := by decide +kernel
theorem dL_law_492 : decode cL_law 492 = .ok (.aload_n 0, 1) := by decide +kernel
theorem dL_law_493 : decode cL_law 493 = .ok (.iload_n 3, 1) := by decide +kernel
theorem dL_law_494 : decode cL_law 494 = .ok (.iconst 1, 1) := by decide +kernel
theorem dL_law_495 : decode cL_law 495 = .ok (.iadd, 1) := by decide +kernel
theorem dL_law_496 : decode cL_law 496 = .ok (.iaload, 1) := by decide +kernel
theorem dL_law_497 : decode cL_law 497 = .ok (.invokevirtual 59, 3) := by decide +kernel
theorem dL_law_500 : decode cL_law 500 = .ok (.aload_n 2, 1) := by decide +kernel
theorem dL_law_501 : decode cL_law 501 = .ok (.aload_n 0, 1) := by decide +kernel
theorem dL_law_502 : decode cL_law 502 = .ok (.iload_n 3, 1) := by decide +kernel
theorem dL_law_503 : decode cL_law 503 = .ok (.iconst 1, 1) := by decide +kernel
theorem dL_law_504 : decode cL_law 504 = .ok (.iadd, 1) := by decide +kernel
theorem dL_law_505 : decode cL_law 505 = .ok (.iaload, 1) := by decide +kernel
theorem dL_law_506 : decode cL_law 506 = .ok (.invokevirtual 62, 3) := by decide +kernel
theorem dL_law_509 : decode cL_law 509 = .ok (.if_icmp .eq 314, 3) := by decide +kernel
theorem dL_law_512 : decode cL_law 512 = .ok (.iconst 0, 1) := by decide +kernel
theorem dL_law_513 : decode cL_law 513 = .ok (.ireturn, 1) := by decide +kernel
theorem dL_law_514 : decode cL_law 514 = .ok (.aload_n 1, 1) := by decide +kernel
theorem dL_law_515 : decode cL_law 515 = .ok (.aload_n 0, 1) := by decide +kernel
theorem dL_law_516 : decode cL_law 516 = .ok (.iload_n 3, 1) := by decide +kernel
theorem dL_law_517 : decode cL_law 517 = .ok (.iconst 1, 1) := by decide +kernel
theorem dL_law_518 : decode cL_law 518 = .ok (.iadd, 1) := by decide +kernel
theorem dL_law_519 : decode cL_law 519 = .ok (.iaload, 1) := by decide +kernel
theorem dL_law_520 : decode cL_law 520 = .ok (.aload_n 0, 1) := by decide +kernel
theorem dL_law_521 : decode cL_law 521 = .ok (.iload_n 3, 1) := by decide +kernel
theorem dL_law_522 : decode cL_law 522 = .ok (.iconst 2, 1) := by decide +kernel
theorem dL_law_523 : decode cL_law 523 = .ok (.iadd, 1) := by decide +kernel
theorem dL_law_524 : decode cL_law 524 = .ok (.iaload, 1) := by decide +kernel
theorem dL_law_525 : decode cL_law 525 = .ok (.ifCond .eq 7, 3) := by decide +kernel
theorem dL_law_528 : decode cL_law 528 = .ok (.iconst 1, 1) := by decide +kernel
theorem dL_law_529 : decode cL_law 529 = .ok (.goto 4, 3) := by decide +kernel
theorem dL_law_532 : decode cL_law 532 = .ok (.iconst 0, 1) := by decide +kernel
theorem dL_law_533 : decode cL_law 533 = .ok (.aload_n 0, 1) := by decide +kernel
theorem dL_law_534 : decode cL_law 534 = .ok (.iload_n 3, 1) := by decide +kernel
theorem dL_law_535 : decode cL_law 535 = .ok (.iconst 3, 1) := by decide +kernel
theorem dL_law_536 : decode cL_law 536 = .ok (.iadd, 1) := by decide +kernel
theorem dL_law_537 : decode cL_law 537 = .ok (.iaload, 1) := by decide +kernel
theorem dL_law_538 : decode cL_law 538 = .ok (.invokevirtual 63, 3) := by decide +kernel
theorem dL_law_541 : decode cL_law 541 = .ok (.aload_n 2, 1) := by decide +kernel
theorem dL_law_542 : decode cL_law 542 = .ok (.aload_n 0, 1) := by decide +kernel
theorem dL_law_543 : decode cL_law 543 = .ok (.iload_n 3, 1) := by decide +kernel
theorem dL_law_544 : decode cL_law 544 = .ok (.iconst 1, 1) := by decide +kernel
theorem dL_law_545 : decode cL_law 545 = .ok (.iadd, 1) := by decide +kernel
theorem dL_law_546 : decode cL_law 546 = .ok (.iaload, 1) := by decide +kernel
theorem dL_law_547 : decode cL_law 547 = .ok (.aload_n 0, 1) := by decide +kernel
theorem dL_law_548 : decode cL_law 548 = .ok (.iload_n 3, 1) := by decide +kernel
theorem dL_law_549 : decode cL_law 549 = .ok (.iconst 2, 1) := by decide +kernel
theorem dL_law_550 : decode cL_law 550 = .ok (.iadd, 1) := by decide +kernel
theorem dL_law_551 : decode cL_law 551 = .ok (.iaload, 1) := by decide +kernel
theorem dL_law_552 : decode cL_law 552 = .ok (.ifCond .eq 7, 3) := by decide +kernel
theorem dL_law_555 : decode cL_law 555 = .ok (.iconst 1, 1) := by decide +kernel
theorem dL_law_556 : decode cL_law 556 = .ok (.goto 4, 3) := by decide +kernel
theorem dL_law_559 : decode cL_law 559 = .ok (.iconst 0, 1) := by decide +kernel
theorem dL_law_560 : decode cL_law 560 = .ok (.aload_n 0, 1) := by decide +kernel
theorem dL_law_561 : decode cL_law 561 = .ok (.iload_n 3, 1) := by decide +kernel
theorem dL_law_562 : decode cL_law 562 = .ok (.iconst 3, 1) := by decide +kernel
theorem dL_law_563 : decode cL_law 563 = .ok (.iadd, 1) := by decide +kernel
theorem dL_law_564 : decode cL_law 564 = .ok (.iaload, 1) := by decide +kernel
theorem dL_law_565 : decode cL_law 565 = .ok (.invokevirtual 67, 3) := by decide +kernel
theorem dL_law_568 : decode cL_law 568 = .ok (.if_icmp .eq 255, 3) := by decide +kernel
theorem dL_law_571 : decode cL_law 571 = .ok (.iconst 0, 1) := by decide +kernel
theorem dL_law_572 : decode cL_law 572 = .ok (.ireturn, 1) := by decide +kernel
theorem dL_law_573 : decode cL_law 573 = .ok (.aload_n 1, 1) := by decide +kernel
theorem dL_law_574 : decode cL_law 574 = .ok (.aload_n 0, 1) := by decide +kernel
theorem dL_law_575 : decode cL_law 575 = .ok (.iload_n 3, 1) := by decide +kernel
theorem dL_law_576 : decode cL_law 576 = .ok (.iconst 1, 1) := by decide +kernel
theorem dL_law_577 : decode cL_law 577 = .ok (.iadd, 1) := by decide +kernel
theorem dL_law_578 : decode cL_law 578 = .ok (.iaload, 1) := by decide +kernel
theorem dL_law_579 : decode cL_law 579 = .ok (.invokevirtual 68, 3) := by decide +kernel
theorem dL_law_582 : decode cL_law 582 = .ok (.aload_n 2, 1) := by decide +kernel
theorem dL_law_583 : decode cL_law 583 = .ok (.aload_n 0, 1) := by decide +kernel
theorem dL_law_584 : decode cL_law 584 = .ok (.iload_n 3, 1) := by decide +kernel
theorem dL_law_585 : decode cL_law 585 = .ok (.iconst 1, 1) := by decide +kernel
theorem dL_law_586 : decode cL_law 586 = .ok (.iadd, 1) := by decide +kernel
theorem dL_law_587 : decode cL_law 587 = .ok (.iaload, 1) := by decide +kernel
theorem dL_law_588 : decode cL_law 588 = .ok (.invokevirtual 71, 3) := by decide +kernel
theorem dL_law_591 : decode cL_law 591 = .ok (.if_icmp .eq 232, 3) := by decide +kernel
theorem dL_law_594 : decode cL_law 594 = .ok (.iconst 0, 1) := by decide +kernel
theorem dL_law_595 : decode cL_law 595 = .ok (.ireturn, 1) := by decide +kernel
theorem dL_law_596 : decode cL_law 596 = .ok (.aload_n 1, 1) := by decide +kernel
theorem dL_law_597 : decode cL_law 597 = .ok (.invokevirtual 72, 3) := by decide +kernel
theorem dL_law_600 : decode cL_law 600 = .ok (.aload_n 2, 1) := by decide +kernel
theorem dL_law_601 : decode cL_law 601 = .ok (.invokevirtual 75, 3) := by decide +kernel
theorem dL_law_604 : decode cL_law 604 = .ok (.if_icmp .eq 219, 3) := by decide +kernel
theorem dL_law_607 : decode cL_law 607 = .ok (.iconst 0, 1) := by decide +kernel
theorem dL_law_608 : decode cL_law 608 = .ok (.ireturn, 1) := by decide +kernel
theorem dL_law_609 : decode cL_law 609 = .ok (.aload_n 1, 1) := by decide +kernel
theorem dL_law_610 : decode cL_law 610 = .ok (.aload_n 0, 1) := by decide +kernel
theorem dL_law_611 : decode cL_law 611 = .ok (.iload_n 3, 1) := by decide +kernel
theorem dL_law_612 : decode cL_law 612 = .ok (.iconst 1, 1) := by decide +kernel
theorem dL_law_613 : decode cL_law 613 = .ok (.iadd, 1) := by decide +kernel
theorem dL_law_614 : decode cL_law 614 = .ok (.iaload, 1) := by decide +kernel
theorem dL_law_615 : decode cL_law 615 = .ok (.aload_n 0, 1) := by decide +kernel
theorem dL_law_616 : decode cL_law 616 = .ok (.iload_n 3, 1) := by decide +kernel
theorem dL_law_617 : decode cL_law 617 = .ok (.iconst 2, 1) := by decide +kernel
theorem dL_law_618 : decode cL_law 618 = .ok (.iadd, 1) := by decide +kernel
theorem dL_law_619 : decode cL_law 619 = .ok (.iaload, 1) := by decide +kernel
theorem dL_law_620 : decode cL_law 620 = .ok (.aload_n 0, 1) := by decide +kernel
theorem dL_law_621 : decode cL_law 621 = .ok (.iload_n 3, 1) := by decide +kernel
theorem dL_law_622 : decode cL_law 622 = .ok (.iconst 3, 1) := by decide +kernel
theorem dL_law_623 : decode cL_law 623 = .ok (.iadd, 1) := by decide +kernel
theorem dL_law_624 : decode cL_law 624 = .ok (.iaload, 1) := by decide +kernel
theorem dL_law_625 : decode cL_law 625 = .ok (.aload_n 0, 1) := by decide +kernel
theorem dL_law_626 : decode cL_law 626 = .ok (.iload_n 3, 1) := by decide +kernel
theorem dL_law_627 : decode cL_law 627 = .ok (.iconst 4, 1) := by decide +kernel
theorem dL_law_628 : decode cL_law 628 = .ok (.iadd, 1) := by decide +kernel
theorem dL_law_629 : decode cL_law 629 = .ok (.iaload, 1) := by decide +kernel
theorem dL_law_630 : decode cL_law 630 = .ok (.aload_n 0, 1) := by decide +kernel
theorem dL_law_631 : decode cL_law 631 = .ok (.iload_n 3, 1) := by decide +kernel
theorem dL_law_632 : decode cL_law 632 = .ok (.iconst 5, 1) := by decide +kernel
theorem dL_law_633 : decode cL_law 633 = .ok (.iadd, 1) := by decide +kernel
theorem dL_law_634 : decode cL_law 634 = .ok (.iaload, 1) := by decide +kernel
theorem dL_law_635 : decode cL_law 635 = .ok (.invokevirtual 76, 3) := by decide +kernel
theorem dL_law_638 : decode cL_law 638 = .ok (.aload_n 2, 1) := by decide +kernel
theorem dL_law_639 : decode cL_law 639 = .ok (.aload_n 0, 1) := by decide +kernel
theorem dL_law_640 : decode cL_law 640 = .ok (.iload_n 3, 1) := by decide +kernel
theorem dL_law_641 : decode cL_law 641 = .ok (.iconst 1, 1) := by decide +kernel
theorem dL_law_642 : decode cL_law 642 = .ok (.iadd, 1) := by decide +kernel
theorem dL_law_643 : decode cL_law 643 = .ok (.iaload, 1) := by decide +kernel
theorem dL_law_644 : decode cL_law 644 = .ok (.aload_n 0, 1) := by decide +kernel
theorem dL_law_645 : decode cL_law 645 = .ok (.iload_n 3, 1) := by decide +kernel
theorem dL_law_646 : decode cL_law 646 = .ok (.iconst 2, 1) := by decide +kernel
theorem dL_law_647 : decode cL_law 647 = .ok (.iadd, 1) := by decide +kernel
theorem dL_law_648 : decode cL_law 648 = .ok (.iaload, 1) := by decide +kernel
theorem dL_law_649 : decode cL_law 649 = .ok (.aload_n 0, 1) := by decide +kernel
theorem dL_law_650 : decode cL_law 650 = .ok (.iload_n 3, 1) := by decide +kernel
theorem dL_law_651 : decode cL_law 651 = .ok (.iconst 3, 1) := by decide +kernel
theorem dL_law_652 : decode cL_law 652 = .ok (.iadd, 1) := by decide +kernel
theorem dL_law_653 : decode cL_law 653 = .ok (.iaload, 1) := by decide +kernel
theorem dL_law_654 : decode cL_law 654 = .ok (.aload_n 0, 1) := by decide +kernel
theorem dL_law_655 : decode cL_law 655 = .ok (.iload_n 3, 1) := by decide +kernel
theorem dL_law_656 : decode cL_law 656 = .ok (.iconst 4, 1) := by decide +kernel
theorem dL_law_657 : decode cL_law 657 = .ok (.iadd, 1) := by decide +kernel
theorem dL_law_658 : decode cL_law 658 = .ok (.iaload, 1) := by decide +kernel
theorem dL_law_659 : decode cL_law 659 = .ok (.aload_n 0, 1) := by decide +kernel
theorem dL_law_660 : decode cL_law 660 = .ok (.iload_n 3, 1) := by decide +kernel
theorem dL_law_661 : decode cL_law 661 = .ok (.iconst 5, 1) := by decide +kernel
theorem dL_law_662 : decode cL_law 662 = .ok (.iadd, 1) := by decide +kernel
theorem dL_law_663 : decode cL_law 663 = .ok (.iaload, 1) := by decide +kernel
theorem dL_law_664 : decode cL_law 664 = .ok (.invokevirtual 80, 3) := by decide +kernel
theorem dL_law_667 : decode cL_law 667 = .ok (.if_icmp .eq 156, 3) := by decide +kernel
theorem dL_law_670 : decode cL_law 670 = .ok (.iconst 0, 1) := by decide +kernel
theorem dL_law_671 : decode cL_law 671 = .ok (.ireturn, 1) := by decide +kernel
theorem dL_law_672 : decode cL_law 672 = .ok (.aload_n 1, 1) := by decide +kernel
theorem dL_law_673 : decode cL_law 673 = .ok (.aload_n 0, 1) := by decide +kernel
theorem dL_law_674 : decode cL_law 674 = .ok (.iload_n 3, 1) := by decide +kernel
theorem dL_law_675 : decode cL_law 675 = .ok (.iconst 1, 1) := by decide +kernel
theorem dL_law_676 : decode cL_law 676 = .ok (.iadd, 1) := by decide +kernel
theorem dL_law_677 : decode cL_law 677 = .ok (.iaload, 1) := by decide +kernel
theorem dL_law_678 : decode cL_law 678 = .ok (.invokevirtual 81, 3) := by decide +kernel
theorem dL_law_681 : decode cL_law 681 = .ok (.aload_n 2, 1) := by decide +kernel
theorem dL_law_682 : decode cL_law 682 = .ok (.aload_n 0, 1) := by decide +kernel
theorem dL_law_683 : decode cL_law 683 = .ok (.iload_n 3, 1) := by decide +kernel
theorem dL_law_684 : decode cL_law 684 = .ok (.iconst 1, 1) := by decide +kernel
theorem dL_law_685 : decode cL_law 685 = .ok (.iadd, 1) := by decide +kernel
theorem dL_law_686 : decode cL_law 686 = .ok (.iaload, 1) := by decide +kernel
theorem dL_law_687 : decode cL_law 687 = .ok (.invokevirtual 84, 3) := by decide +kernel
theorem dL_law_690 : decode cL_law 690 = .ok (.if_icmp .eq 133, 3) := by decide +kernel
theorem dL_law_693 : decode cL_law 693 = .ok (.iconst 0, 1) := by decide +kernel
theorem dL_law_694 : decode cL_law 694 = .ok (.ireturn, 1) := by decide +kernel
theorem dL_law_695 : decode cL_law 695 = .ok (.aload_n 1, 1) := by decide +kernel
theorem dL_law_696 : decode cL_law 696 = .ok (.invokevirtual 85, 3) := by decide +kernel
theorem dL_law_699 : decode cL_law 699 = .ok (.aload_n 2, 1) := by decide +kernel
theorem dL_law_700 : decode cL_law 700 = .ok (.invokevirtual 88, 3) := by decide +kernel
theorem dL_law_703 : decode cL_law 703 = .ok (.if_icmp .eq 120, 3) := by decide +kernel
theorem dL_law_706 : decode cL_law 706 = .ok (.iconst 0, 1) := by decide +kernel
theorem dL_law_707 : decode cL_law 707 = .ok (.ireturn, 1) := by decide +kernel
theorem dL_law_708 : decode cL_law 708 = .ok (.aload_n 1, 1) := by decide +kernel
theorem dL_law_709 : decode cL_law 709 = .ok (.aload_n 0, 1) := by decide +kernel
theorem dL_law_710 : decode cL_law 710 = .ok (.iload_n 3, 1) := by decide +kernel
theorem dL_law_711 : decode cL_law 711 = .ok (.iconst 1, 1) := by decide +kernel
theorem dL_law_712 : decode cL_law 712 = .ok (.iadd, 1) := by decide +kernel
theorem dL_law_713 : decode cL_law 713 = .ok (.iaload, 1) := by decide +kernel
theorem dL_law_714 : decode cL_law 714 = .ok (.invokevirtual 89, 3) := by decide +kernel
theorem dL_law_717 : decode cL_law 717 = .ok (.aload_n 2, 1) := by decide +kernel
theorem dL_law_718 : decode cL_law 718 = .ok (.aload_n 0, 1) := by decide +kernel
theorem dL_law_719 : decode cL_law 719 = .ok (.iload_n 3, 1) := by decide +kernel
theorem dL_law_720 : decode cL_law 720 = .ok (.iconst 1, 1) := by decide +kernel
theorem dL_law_721 : decode cL_law 721 = .ok (.iadd, 1) := by decide +kernel
theorem dL_law_722 : decode cL_law 722 = .ok (.iaload, 1) := by decide +kernel
theorem dL_law_723 : decode cL_law 723 = .ok (.invokevirtual 92, 3) := by decide +kernel
theorem dL_law_726 : decode cL_law 726 = .ok (.if_icmp .eq 97, 3) := by decide +kernel
theorem dL_law_729 : decode cL_law 729 = .ok (.iconst 0, 1) := by decide +kernel
theorem dL_law_730 : decode cL_law 730 = .ok (.ireturn, 1) := by decide +kernel
theorem dL_law_731 : decode cL_law 731 = .ok (.aload_n 1, 1) := by decide +kernel
theorem dL_law_732 : decode cL_law 732 = .ok (.aload_n 0, 1) := by decide +kernel
theorem dL_law_733 : decode cL_law 733 = .ok (.iload_n 3, 1) := by decide +kernel
theorem dL_law_734 : decode cL_law 734 = .ok (.iconst 1, 1) := by decide +kernel
theorem dL_law_735 : decode cL_law 735 = .ok (.iadd, 1) := by decide +kernel
theorem dL_law_736 : decode cL_law 736 = .ok (.iaload, 1) := by decide +kernel
theorem dL_law_737 : decode cL_law 737 = .ok (.invokevirtual 93, 3) := by decide +kernel
theorem dL_law_740 : decode cL_law 740 = .ok (.aload_n 2, 1) := by decide +kernel
theorem dL_law_741 : decode cL_law 741 = .ok (.aload_n 0, 1) := by decide +kernel
theorem dL_law_742 : decode cL_law 742 = .ok (.iload_n 3, 1) := by decide +kernel
theorem dL_law_743 : decode cL_law 743 = .ok (.iconst 1, 1) := by decide +kernel
theorem dL_law_744 : decode cL_law 744 = .ok (.iadd, 1) := by decide +kernel
theorem dL_law_745 : decode cL_law 745 = .ok (.iaload, 1) := by decide +kernel
theorem dL_law_746 : decode cL_law 746 = .ok (.invokevirtual 96, 3) := by decide +kernel
theorem dL_law_749 : decode cL_law 749 = .ok (.if_icmp .eq 74, 3) := by decide +kernel
theorem dL_law_752 : decode cL_law 752 = .ok (.iconst 0, 1) := by decide +kernel
theorem dL_law_753 : decode cL_law 753 = .ok (.ireturn, 1) := by decide +kernel
theorem dL_law_754 : decode cL_law 754 = .ok (.aload_n 1, 1) := by decide +kernel
theorem dL_law_755 : decode cL_law 755 = .ok (.aload_n 0, 1) := by decide +kernel
theorem dL_law_756 : decode cL_law 756 = .ok (.iload_n 3, 1) := by decide +kernel
theorem dL_law_757 : decode cL_law 757 = .ok (.iconst 1, 1) := by decide +kernel
theorem dL_law_758 : decode cL_law 758 = .ok (.iadd, 1) := by decide +kernel
theorem dL_law_759 : decode cL_law 759 = .ok (.iaload, 1) := by decide +kernel
theorem dL_law_760 : decode cL_law 760 = .ok (.invokevirtual 97, 3) := by decide +kernel
theorem dL_law_763 : decode cL_law 763 = .ok (.aload_n 2, 1) := by decide +kernel
theorem dL_law_764 : decode cL_law 764 = .ok (.aload_n 0, 1) := by decide +kernel
theorem dL_law_765 : decode cL_law 765 = .ok (.iload_n 3, 1) := by decide +kernel
theorem dL_law_766 : decode cL_law 766 = .ok (.iconst 1, 1) := by decide +kernel
theorem dL_law_767 : decode cL_law 767 = .ok (.iadd, 1) := by decide +kernel
theorem dL_law_768 : decode cL_law 768 = .ok (.iaload, 1) := by decide +kernel
theorem dL_law_769 : decode cL_law 769 = .ok (.invokevirtual 100, 3) := by decide +kernel
theorem dL_law_772 : decode cL_law 772 = .ok (.if_icmp .eq 51, 3) := by decide +kernel
theorem dL_law_775 : decode cL_law 775 = .ok (.iconst 0, 1) := by decide +kernel
theorem dL_law_776 : decode cL_law 776 = .ok (.ireturn, 1) := by decide +kernel
theorem dL_law_777 : decode cL_law 777 = .ok (.aload_n 1, 1) := by decide +kernel
theorem dL_law_778 : decode cL_law 778 = .ok (.aload_n 0, 1) := by decide +kernel
theorem dL_law_779 : decode cL_law 779 = .ok (.iload_n 3, 1) := by decide +kernel
theorem dL_law_780 : decode cL_law 780 = .ok (.iconst 1, 1) := by decide +kernel
theorem dL_law_781 : decode cL_law 781 = .ok (.iadd, 1) := by decide +kernel
theorem dL_law_782 : decode cL_law 782 = .ok (.iaload, 1) := by decide +kernel
theorem dL_law_783 : decode cL_law 783 = .ok (.invokevirtual 101, 3) := by decide +kernel
theorem dL_law_786 : decode cL_law 786 = .ok (.aload_n 2, 1) := by decide +kernel
theorem dL_law_787 : decode cL_law 787 = .ok (.aload_n 0, 1) := by decide +kernel
theorem dL_law_788 : decode cL_law 788 = .ok (.iload_n 3, 1) := by decide +kernel
theorem dL_law_789 : decode cL_law 789 = .ok (.iconst 1, 1) := by decide +kernel
theorem dL_law_790 : decode cL_law 790 = .ok (.iadd, 1) := by decide +kernel
theorem dL_law_791 : decode cL_law 791 = .ok (.iaload, 1) := by decide +kernel
theorem dL_law_792 : decode cL_law 792 = .ok (.invokevirtual 104, 3) := by decide +kernel
theorem dL_law_795 : decode cL_law 795 = .ok (.if_icmp .eq 28, 3) := by decide +kernel
theorem dL_law_798 : decode cL_law 798 = .ok (.iconst 0, 1) := by decide +kernel
theorem dL_law_799 : decode cL_law 799 = .ok (.ireturn, 1) := by decide +kernel
theorem dL_law_800 : decode cL_law 800 = .ok (.aload_n 1, 1) := by decide +kernel
theorem dL_law_801 : decode cL_law 801 = .ok (.aload_n 0, 1) := by decide +kernel
theorem dL_law_802 : decode cL_law 802 = .ok (.iload_n 3, 1) := by decide +kernel
theorem dL_law_803 : decode cL_law 803 = .ok (.iconst 1, 1) := by decide +kernel
theorem dL_law_804 : decode cL_law 804 = .ok (.iadd, 1) := by decide +kernel
theorem dL_law_805 : decode cL_law 805 = .ok (.iaload, 1) := by decide +kernel
theorem dL_law_806 : decode cL_law 806 = .ok (.invokevirtual 105, 3) := by decide +kernel
theorem dL_law_809 : decode cL_law 809 = .ok (.aload_n 2, 1) := by decide +kernel
theorem dL_law_810 : decode cL_law 810 = .ok (.aload_n 0, 1) := by decide +kernel
theorem dL_law_811 : decode cL_law 811 = .ok (.iload_n 3, 1) := by decide +kernel
theorem dL_law_812 : decode cL_law 812 = .ok (.iconst 1, 1) := by decide +kernel
theorem dL_law_813 : decode cL_law 813 = .ok (.iadd, 1) := by decide +kernel
theorem dL_law_814 : decode cL_law 814 = .ok (.iaload, 1) := by decide +kernel
theorem dL_law_815 : decode cL_law 815 = .ok (.invokevirtual 108, 3) := by decide +kernel
theorem dL_law_818 : decode cL_law 818 = .ok (.if_icmp .eq 5, 3) := by decide +kernel
theorem dL_law_821 : decode cL_law 821 = .ok (.iconst 0, 1) := by decide +kernel
theorem dL_law_822 : decode cL_law 822 = .ok (.ireturn, 1) := by decide +kernel
theorem dL_law_823 : decode cL_law 823 = .ok (.iinc 3 7, 3) := by decide +kernel
theorem dL_law_826 : decode cL_law 826 = .ok (.goto (-808), 3) := by decide +kernel
theorem dL_law_829 : decode cL_law 829 = .ok (.iconst 1, 1) := by decide +kernel
theorem dL_law_830 : decode cL_law 830 = .ok (.ireturn, 1) := by decide +kernel
