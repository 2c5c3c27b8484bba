theorem dL_holds_90 : decode cL_holds 90 = .ok (.invokevirtual 15, 3) := by decide +kernel
theorem dL_holds_93 : decode cL_holds 93 = .ok (.iload_n 3, 1) := by decide +kernel
theorem dL_holds_94 : decode cL_holds 94 = .ok (.if_icmp .le 14, 3) := by decide +kernel
theorem dL_holds_97 : decode cL_holds 97 = .ok (.aload_n 0, 1) := by decide +kernel
theorem dL_holds_98 : decode cL_holds 98 = .ok (.iload 5, 2) := by decide +kernel
theorem dL_holds_100 : decode cL_holds 100 = .ok (.bipush 6, 2) := by decide +kernel
theorem dL_holds_102 : decode cL_holds 102 = .ok (.invokevirtual 15, 3) := by decide +kernel
theorem dL_holds_105 : decode cL_holds 105 = .ok (.goto 4, 3) := by decide +kernel
theorem dL_holds_108 : decode cL_holds 108 = .ok (.iload_n 3, 1) := by decide +kernel
theorem dL_holds_109 : decode cL_holds 109 = .ok (.istore_n 3, 1) := by decide +kernel
theorem dL_holds_110 : decode cL_holds 110 = .ok (.iload_n 1, 1) := by decide +kernel
theorem dL_holds_111 : decode cL_holds 111 = .ok (.iconst 1, 1) := by decide +kernel
theorem dL_holds_112 : decode cL_holds 112 = .ok (.isub, 1) := by decide +kernel
theorem dL_holds_113 : decode cL_holds 113 = .ok (.istore 6, 2) := by decide +kernel
theorem dL_holds_115 : decode cL_holds 115 = .ok (.aload_n 0, 1) := by decide +kernel
theorem dL_holds_116 : decode cL_holds 116 = .ok (.iload 6, 2) := by decide +kernel
theorem dL_holds_118 : decode cL_holds 118 = .ok (.iconst 2, 1) := by decide +kernel
theorem dL_holds_119 : decode cL_holds 119 = .ok (.invokevirtual 19, 3) := by decide +kernel
theorem dL_holds_122 : decode cL_holds 122 = .ok (.aload_n 0, 1) := by decide +kernel
theorem dL_holds_123 : decode cL_holds 123 = .ok (.iload 6, 2) := by decide +kernel
theorem dL_holds_125 : decode cL_holds 125 = .ok (.iconst 0, 1) := by decide +kernel
theorem dL_holds_126 : decode cL_holds 126 = .ok (.invokevirtual 19, 3) := by decide +kernel
theorem dL_holds_129 : decode cL_holds 129 = .ok (.iadd, 1) := by decide +kernel
theorem dL_holds_130 : decode cL_holds 130 = .ok (.istore 7, 2) := by decide +kernel
theorem dL_holds_132 : decode cL_holds 132 = .ok (.iload 4, 2) := by decide +kernel
theorem dL_holds_134 : decode cL_holds 134 = .ok (.ifCond .eq 50, 3) := by decide +kernel
theorem dL_holds_137 : decode cL_holds 137 = .ok (.iload 7, 2) := by decide +kernel
theorem dL_holds_139 : decode cL_holds 139 = .ok (.aload_n 0, 1) := by decide +kernel
theorem dL_holds_140 : decode cL_holds 140 = .ok (.iconst 2, 1) := by decide +kernel
theorem dL_holds_141 : decode cL_holds 141 = .ok (.invokevirtual 9, 3) := by decide +kernel
theorem dL_holds_144 : decode cL_holds 144 = .ok (.if_icmp .gt 40, 3) := by decide +kernel
theorem dL_holds_147 : decode cL_holds 147 = .ok (.iload 5, 2) := by decide +kernel
theorem dL_holds_149 : decode cL_holds 149 = .ok (.iconst 1, 1) := by decide +kernel
theorem dL_holds_150 : decode cL_holds 150 = .ok (.iadd, 1) := by decide +kernel
theorem dL_holds_151 : decode cL_holds 151 = .ok (.aload_n 0, 1) := by decide +kernel
theorem dL_holds_152 : decode cL_holds 152 = .ok (.iconst 1, 1) := by decide +kernel
theorem dL_holds_153 : decode cL_holds 153 = .ok (.invokevirtual 9, 3) := by decide +kernel
theorem dL_holds_156 : decode cL_holds 156 = .ok (.if_icmp .eq 24, 3) := by decide +kernel
theorem dL_holds_159 : decode cL_holds 159 = .ok (.aload_n 0, 1) := by decide +kernel
theorem dL_holds_160 : decode cL_holds 160 = .ok (.iload 5, 2) := by decide +kernel
theorem dL_holds_162 : decode cL_holds 162 = .ok (.iconst 1, 1) := by decide +kernel
theorem dL_holds_163 : decode cL_holds 163 = .ok (.invokevirtual 15, 3) := by decide +kernel
theorem dL_holds_166 : decode cL_holds 166 = .ok (.iconst 1, 1) := by decide +kernel
theorem dL_holds_167 : decode cL_holds 167 = .ok (.if_icmp .eq 13, 3) := by decide +kernel
theorem dL_holds_170 : decode cL_holds 170 = .ok (.iload 7, 2) := by decide +kernel
theorem dL_holds_172 : decode cL_holds 172 = .ok (.aload_n 0, 1) := by decide +kernel
theorem dL_holds_173 : decode cL_holds 173 = .ok (.iconst 2, 1) := by decide +kernel
theorem dL_holds_174 : decode cL_holds 174 = .ok (.invokevirtual 9, 3) := by decide +kernel
theorem dL_holds_177 : decode cL_holds 177 = .ok (.if_icmp .ne 7, 3) := by decide +kernel
theorem dL_holds_180 : decode cL_holds 180 = .ok (.iconst 1, 1) := by decide +kernel
theorem dL_holds_181 : decode cL_holds 181 = .ok (.goto 4, 3) := by decide +kernel
theorem dL_holds_184 : decode cL_holds 184 = .ok (.iconst 0, 1) := by decide +kernel
theorem dL_holds_185 : decode cL_holds 185 = .ok (.istore 4, 2) := by decide +kernel
theorem dL_holds_187 : decode cL_holds 187 = .ok (.iconst 0, 1) := by decide +kernel
theorem dL_holds_188 : decode cL_holds 188 = .ok (.istore 8, 2) := by decide +kernel
theorem dL_holds_190 : decode cL_holds 190 = .ok (.iconst 0, 1) := by decide +kernel
theorem dL_holds_191 : decode cL_holds 191 = .ok (.istore 9, 2) := by decide +kernel
theorem dL_holds_193 : decode cL_holds 193 = .ok (.iload 9, 2) := by decide +kernel
theorem dL_holds_195 : decode cL_holds 195 = .ok (.aload_n 0, 1) := by decide +kernel
theorem dL_holds_196 : decode cL_holds 196 = .ok (.iload 5, 2) := by decide +kernel
theorem dL_holds_198 : decode cL_holds 198 = .ok (.iconst 4, 1) := by decide +kernel
theorem dL_holds_199 : decode cL_holds 199 = .ok (.invokevirtual 15, 3) := by decide +kernel
theorem dL_holds_202 : decode cL_holds 202 = .ok (.if_icmp .ge 143, 3) := by decide +kernel
theorem dL_holds_205 : decode cL_holds 205 = .ok (.iload 4, 2) := by decide +kernel
theorem dL_holds_207 : decode cL_holds 207 = .ok (.ifCond .eq 138, 3) := by decide +kernel
theorem dL_holds_210 : decode cL_holds 210 = .ok (.iload 8, 2) := by decide +kernel
theorem dL_holds_212 : decode cL_holds 212 = .ok (.aload_n 0, 1) := by decide +kernel
theorem dL_holds_213 : decode cL_holds 213 = .ok (.iload 5, 2) := by decide +kernel
theorem dL_holds_215 : decode cL_holds 215 = .ok (.iload 9, 2) := by decide +kernel
theorem dL_holds_217 : decode cL_holds 217 = .ok (.iconst 4, 1) := by decide +kernel
