theorem d_L_0 : decode code 0 = .ok (.new 7, 3) := by decide +kernel
theorem d_L_3 : decode code 3 = .ok (.dup, 1) := by decide +kernel
theorem d_L_4 : decode code 4 = .ok (.invokespecial 9, 3) := by decide +kernel
theorem d_L_7 : decode code 7 = .ok (.astore_n 1, 1) := by decide +kernel
theorem d_L_8 : decode code 8 = .ok (.new 10, 3) := by decide +kernel
theorem d_L_11 : decode code 11 = .ok (.dup, 1) := by decide +kernel
theorem d_L_12 : decode code 12 = .ok (.invokespecial 12, 3) := by decide +kernel
theorem d_L_15 : decode code 15 = .ok (.astore_n 2, 1) := by decide +kernel
theorem d_L_16 : decode code 16 = .ok (.iconst 0, 1) := by decide +kernel
theorem d_L_17 : decode code 17 = .ok (.istore_n 3, 1) := by decide +kernel
theorem d_L_18 : decode code 18 = .ok (.iload_n 3, 1) := by decide +kernel
theorem d_L_19 : decode code 19 = .ok (.aload_n 0, 1) := by decide +kernel
theorem d_L_20 : decode code 20 = .ok (.arraylength, 1) := by decide +kernel
theorem d_L_21 : decode code 21 = .ok (.iconst 4, 1) := by decide +kernel
theorem d_L_22 : decode code 22 = .ok (.isub, 1) := by decide +kernel
theorem d_L_23 : decode code 23 = .ok (.if_icmp .gt 490, 3) := by decide +kernel
theorem d_L_26 : decode code 26 = .ok (.aload_n 0, 1) := by decide +kernel
theorem d_L_27 : decode code 27 = .ok (.iload_n 3, 1) := by decide +kernel
theorem d_L_28 : decode code 28 = .ok (.iaload, 1) := by decide +kernel
theorem d_L_29 : decode code 29 = .ok (.bipush 31, 2) := by decide +kernel
theorem d_L_31 : decode code 31 = .ok (.iand, 1) := by decide +kernel
theorem d_L_32 : decode code 32 = .ok (.tableswitch 475 0 16 #[84, 117, 160, 173, 206, 229, 242, 265, 298, 321, 344, 367, 390, 423, 436, 449, 462], 84) := by decide +kernel
theorem d_L_116 : decode code 116 = .ok (.aload_n 1, 1) := by decide +kernel
theorem d_L_117 : decode code 117 = .ok (.aload_n 0, 1) := by decide +kernel
theorem d_L_118 : decode code 118 = .ok (.iload_n 3, 1) := by decide +kernel
theorem d_L_119 : decode code 119 = .ok (.iconst 1, 1) := by decide +kernel
theorem d_L_120 : decode code 120 = .ok (.iadd, 1) := by decide +kernel
theorem d_L_121 : decode code 121 = .ok (.iaload, 1) := by decide +kernel
theorem d_L_122 : decode code 122 = .ok (.aload_n 0, 1) := by decide +kernel
theorem d_L_123 : decode code 123 = .ok (.iload_n 3, 1) := by decide +kernel
theorem d_L_124 : decode code 124 = .ok (.iconst 2, 1) := by decide +kernel
theorem d_L_125 : decode code 125 = .ok (.iadd, 1) := by decide +kernel
theorem d_L_126 : decode code 126 = .ok (.iaload, 1) := by decide +kernel
theorem d_L_127 : decode code 127 = .ok (.invokevirtual 13, 3) := by decide +kernel
theorem d_L_130 : decode code 130 = .ok (.aload_n 2, 1) := by decide +kernel
theorem d_L_131 : decode code 131 = .ok (.aload_n 0, 1) := by decide +kernel
theorem d_L_132 : decode code 132 = .ok (.iload_n 3, 1) := by decide +kernel
theorem d_L_133 : decode code 133 = .ok (.iconst 1, 1) := by decide +kernel
theorem d_L_134 : decode code 134 = .ok (.iadd, 1) := by decide +kernel
theorem d_L_135 : decode code 135 = .ok (.iaload, 1) := by decide +kernel
theorem d_L_136 : decode code 136 = .ok (.aload_n 0, 1) := by decide +kernel
theorem d_L_137 : decode code 137 = .ok (.iload_n 3, 1) := by decide +kernel
theorem d_L_138 : decode code 138 = .ok (.iconst 2, 1) := by decide +kernel
theorem d_L_139 : decode code 139 = .ok (.iadd, 1) := by decide +kernel
theorem d_L_140 : decode code 140 = .ok (.iaload, 1) := by decide +kernel
theorem d_L_141 : decode code 141 = .ok (.invokevirtual 17, 3) := by decide +kernel
theorem d_L_144 : decode code 144 = .ok (.if_icmp .eq 363, 3) := by decide +kernel
theorem d_L_147 : decode code 147 = .ok (.iconst 0, 1) := by decide +kernel
theorem d_L_148 : decode code 148 = .ok (.ireturn, 1) := by decide +kernel
theorem d_L_149 : decode code 149 = .ok (.aload_n 1, 1) := by decide +kernel
theorem d_L_150 : decode code 150 = .ok (.aload_n 0, 1) := by decide +kernel
theorem d_L_151 : decode code 151 = .ok (.iload_n 3, 1) := by decide +kernel
theorem d_L_152 : decode code 152 = .ok (.iconst 1, 1) := by decide +kernel
theorem d_L_153 : decode code 153 = .ok (.iadd, 1) := by decide +kernel
theorem d_L_154 : decode code 154 = .ok (.iaload, 1) := by decide +kernel
theorem d_L_155 : decode code 155 = .ok (.aload_n 0, 1) := by decide +kernel
theorem d_L_156 : decode code 156 = .ok (.iload_n 3, 1) := by decide +kernel
theorem d_L_157 : decode code 157 = .ok (.iconst 2, 1) := by decide +kernel
theorem d_L_158 : decode code 158 = .ok (.iadd, 1) := by decide +kernel
theorem d_L_159 : decode code 159 = .ok (.iaload, 1) := by decide +kernel
theorem d_L_160 : decode code 160 = .ok (.aload_n 0, 1) := by decide +kernel
theorem d_L_161 : decode code 161 = .ok (.iload_n 3, 1) := by decide +kernel
theorem d_L_162 : decode code 162 = .ok (.iconst 3, 1) := by decide +kernel
theorem d_L_163 : decode code 163 = .ok (.iadd, 1) := by decide +kernel
theorem d_L_164 : decode code 164 = .ok (.iaload, 1) := by decide +kernel
theorem d_L_165 : decode code 165 = .ok (.invokevirtual 18, 3) := by decide +kernel
theorem d_L_168 : decode code 168 = .ok (.aload_n 2, 1) := by decide +kernel
theorem d_L_169 : decode code 169 = .ok (.aload_n 0, 1) := by decide +kernel
theorem d_L_170 : decode code 170 = .ok (.iload_n 3, 1) := by decide +kernel
theorem d_L_171 : decode code 171 = .ok (.iconst 1, 1) := by decide +kernel
theorem d_L_172 : decode code 172 = .ok (.iadd, 1) := by decide +kernel
theorem d_L_173 : decode code 173 = .ok (.iaload, 1) := by decide +kernel
theorem d_L_174 : decode code 174 = .ok (.aload_n 0, 1) := by decide +kernel
theorem d_L_175 : decode code 175 = .ok (.iload_n 3, 1) := by decide +kernel
theorem d_L_176 : decode code 176 = .ok (.iconst 2, 1) := by decide +kernel
theorem d_L_177 : decode code 177 = .ok (.iadd, 1) := by decide +kernel
theorem d_L_178 : decode code 178 = .ok (.iaload, 1) := by decide +kernel
theorem d_L_179 : decode code 179 = .ok (.aload_n 0, 1) := by decide +kernel
theorem d_L_180 : decode code 180 = .ok (.iload_n 3, 1) := by decide +kernel
theorem d_L_181 : decode code 181 = .ok (.iconst 3, 1) := by decide +kernel
theorem d_L_182 : decode code 182 = .ok (.iadd, 1) := by decide +kernel
theorem d_L_183 : decode code 183 = .ok (.iaload, 1) := by decide +kernel
theorem d_L_184 : decode code 184 = .ok (.invokevirtual 22, 3) := by decide +kernel
theorem d_L_187 : decode code 187 = .ok (.if_icmp .eq 320, 3) := by decide +kernel
theorem d_L_190 : decode code 190 = .ok (.iconst 0, 1) := by decide +kernel
theorem d_L_191 : decode code 191 = .ok (.ireturn, 1) := by decide +kernel
theorem d_L_192 : decode code 192 = .ok (.aload_n 1, 1) := by decide +kernel
theorem d_L_193 : decode code 193 = .ok (.invokevirtual 23, 3) := by decide +kernel
theorem d_L_196 : decode code 196 = .ok (.aload_n 2, 1) := by decide +kernel
theorem d_L_197 : decode code 197 = .ok (.invokevirtual 27, 3) := by decide +kernel
theorem d_L_200 : decode code 200 = .ok (.if_icmp .eq 307, 3) := by decide +kernel
theorem d_L_203 : decode code 203 = .ok (.iconst 0, 1) := by decide +kernel
theorem d_L_204 : decode code 204 = .ok (.ireturn, 1) := by decide +kernel
theorem d_L_205 : decode code 205 = .ok (.aload_n 1, 1) := by decide +kernel
theorem d_L_206 : decode code 206 = .ok (.aload_n 0, 1) := by decide +kernel
theorem d_L_207 : decode code 207 = .ok (.iload_n 3, 1) := by decide +kernel
theorem d_L_208 : decode code 208 = .ok (.iconst 1, 1) := by decide +kernel
theorem d_L_209 : decode code 209 = .ok (.iadd, 1) := by decide +kernel
theorem d_L_210 : decode code 210 = .ok (.iaload, 1) := by decide +kernel
theorem d_L_211 : decode code 211 = .ok (.aload_n 0, 1) := by decide +kernel
theorem d_L_212 : decode code 212 = .ok (.iload_n 3, 1) := by decide +kernel
theorem d_L_213 : decode code 213 = .ok (.iconst 2, 1) := by decide +kernel
theorem d_L_214 : decode code 214 = .ok (.iadd, 1) := by decide +kernel
theorem d_L_215 : decode code 215 = .ok (.iaload, 1) := by decide +kernel
theorem d_L_216 : decode code 216 = .ok (.invokevirtual 28, 3) := by decide +kernel
theorem d_L_219 : decode code 219 = .ok (.aload_n 2, 1) := by decide +kernel
theorem d_L_220 : decode code 220 = .ok (.aload_n 0, 1) := by decide +kernel
theorem d_L_221 : decode code 221 = .ok (.iload_n 3, 1) := by decide +kernel
theorem d_L_222 : decode code 222 = .ok (.iconst 1, 1) := by decide +kernel
theorem d_L_223 : decode code 223 = .ok (.iadd, 1) := by decide +kernel
theorem d_L_224 : decode code 224 = .ok (.iaload, 1) := by decide +kernel
theorem d_L_225 : decode code 225 = .ok (.aload_n 0, 1) := by decide +kernel
theorem d_L_226 : decode code 226 = .ok (.iload_n 3, 1) := by decide +kernel
theorem d_L_227 : decode code 227 = .ok (.iconst 2, 1) := by decide +kernel
theorem d_L_228 : decode code 228 = .ok (.iadd, 1) := by decide +kernel
theorem d_L_229 : decode code 229 = .ok (.iaload, 1) := by decide +kernel
theorem d_L_230 : decode code 230 = .ok (.invokevirtual 32, 3) := by decide +kernel
theorem d_L_233 : decode code 233 = .ok (.if_icmp .eq 274, 3) := by decide +kernel
theorem d_L_236 : decode code 236 = .ok (.iconst 0, 1) := by decide +kernel
theorem d_L_237 : decode code 237 = .ok (.ireturn, 1) := by decide +kernel
theorem d_L_238 : decode code 238 = .ok (.aload_n 1, 1) := by decide +kernel
theorem d_L_239 : decode code 239 = .ok (.aload_n 0, 1) := by decide +kernel
theorem d_L_240 : decode code 240 = .ok (.iload_n 3, 1) := by decide +kernel
theorem d_L_241 : decode code 241 = .ok (.iconst 1, 1) := by decide +kernel
theorem d_L_242 : decode code 242 = .ok (.iadd, 1) := by decide +kernel
theorem d_L_243 : decode code 243 = .ok (.iaload, 1) := by decide +kernel
theorem d_L_244 : decode code 244 = .ok (.invokevirtual 33, 3) := by decide +kernel
theorem d_L_247 : decode code 247 = .ok (.aload_n 2, 1) := by decide +kernel
theorem d_L_248 : decode code 248 = .ok (.aload_n 0, 1) := by decide +kernel
theorem d_L_249 : decode code 249 = .ok (.iload_n 3, 1) := by decide +kernel
theorem d_L_250 : decode code 250 = .ok (.iconst 1, 1) := by decide +kernel
theorem d_L_251 : decode code 251 = .ok (.iadd, 1) := by decide +kernel
theorem d_L_252 : decode code 252 = .ok (.iaload, 1) := by decide +kernel
theorem d_L_253 : decode code 253 = .ok (.invokevirtual 37, 3) := by decide +kernel
theorem d_L_256 : decode code 256 = .ok (.if_icmp .eq 251, 3) := by decide +kernel
theorem d_L_259 : decode code 259 = .ok (.iconst 0, 1) := by decide +kernel
theorem d_L_260 : decode code 260 = .ok (.ireturn, 1) := by decide +kernel
theorem d_L_261 : decode code 261 = .ok (.aload_n 1, 1) := by decide +kernel
theorem d_L_262 : decode code 262 = .ok (.invokevirtual 38, 3) := by decide +kernel
theorem d_L_265 : decode code 265 = .ok (.aload_n 2, 1) := by decide +kernel
theorem d_L_266 : decode code 266 = .ok (.invokevirtual 41, 3) := by decide +kernel
theorem d_L_269 : decode code 269 = .ok (.if_icmp .eq 238, 3) := by decide +kernel
theorem d_L_272 : decode code 272 = .ok (.iconst 0, 1) := by decide +kernel
theorem d_L_273 : decode code 273 = .ok (.ireturn, 1) := by decide +kernel
theorem d_L_274 : decode code 274 = .ok (.aload_n 1, 1) := by decide +kernel
theorem d_L_275 : decode code 275 = .ok (.aload_n 0, 1) := by decide +kernel
theorem d_L_276 : decode code 276 = .ok (.iload_n 3, 1) := by decide +kernel
theorem d_L_277 : decode code 277 = .ok (.iconst 1, 1) := by decide +kernel
theorem d_L_278 : decode code 278 = .ok (.iadd, 1) := by decide +kernel
theorem d_L_279 : decode code 279 = .ok (.iaload, 1) := by decide +kernel
theorem d_L_280 : decode code 280 = .ok (.invokevirtual 42, 3) := by decide +kernel
theorem d_L_283 : decode code 283 = .ok (.aload_n 2, 1) := by decide +kernel
theorem d_L_284 : decode code 284 = .ok (.aload_n 0, 1) := by decide +kernel
theorem d_L_285 : decode code 285 = .ok (.iload_n 3, 1) := by decide +kernel
theorem d_L_286 : decode code 286 = .ok (.iconst 1, 1) := by decide +kernel
theorem d_L_287 : decode code 287 = .ok (.iadd, 1) := by decide +kernel
theorem d_L_288 : decode code 288 = .ok (.iaload, 1) := by decide +kernel
theorem d_L_289 : decode code 289 = .ok (.invokevirtual 46, 3) := by decide +kernel
theorem d_L_292 : decode code 292 = .ok (.if_icmp .eq 215, 3) := by decide +kernel
theorem d_L_295 : decode code 295 = .ok (.iconst 0, 1) := by decide +kernel
