theorem cf189_0 : zf 189 0 = some (.new 7) ∧ zf 189 3 = some (.dup) ∧ zf 189 4 = some (.invokespecial 9) ∧ zf 189 7 = some (.astore_n 1) ∧ zf 189 8 = some (.new 10) ∧ zf 189 11 = some (.dup) ∧ zf 189 12 = some (.invokespecial 12) ∧ zf 189 15 = some (.astore_n 2) ∧ zf 189 16 = some (.iconst 0) ∧ zf 189 17 = some (.istore_n 3) ∧ zf 189 18 = some (.iload_n 3) ∧ zf 189 19 = some (.aload_n 0) ∧ zf 189 20 = some (.arraylength) ∧ zf 189 21 = some (.bipush 6) ∧ zf 189 23 = some (.isub) ∧ zf 189 24 = some (.if_icmp .gt 995) := by decide +kernel
theorem f189_0 : zf 189 0 = some (.new 7) := cf189_0.1
theorem f189_3 : zf 189 3 = some (.dup) := cf189_0.2.1
theorem f189_4 : zf 189 4 = some (.invokespecial 9) := cf189_0.2.2.1
theorem f189_7 : zf 189 7 = some (.astore_n 1) := cf189_0.2.2.2.1
theorem f189_8 : zf 189 8 = some (.new 10) := cf189_0.2.2.2.2.1
theorem f189_11 : zf 189 11 = some (.dup) := cf189_0.2.2.2.2.2.1
theorem f189_12 : zf 189 12 = some (.invokespecial 12) := cf189_0.2.2.2.2.2.2.1
theorem f189_15 : zf 189 15 = some (.astore_n 2) := cf189_0.2.2.2.2.2.2.2.1
theorem f189_16 : zf 189 16 = some (.iconst 0) := cf189_0.2.2.2.2.2.2.2.2.1
theorem f189_17 : zf 189 17 = some (.istore_n 3) := cf189_0.2.2.2.2.2.2.2.2.2.1
theorem f189_18 : zf 189 18 = some (.iload_n 3) := cf189_0.2.2.2.2.2.2.2.2.2.2.1
theorem f189_19 : zf 189 19 = some (.aload_n 0) := cf189_0.2.2.2.2.2.2.2.2.2.2.2.1
theorem f189_20 : zf 189 20 = some (.arraylength) := cf189_0.2.2.2.2.2.2.2.2.2.2.2.2.1
theorem f189_21 : zf 189 21 = some (.bipush 6) := cf189_0.2.2.2.2.2.2.2.2.2.2.2.2.2.1
theorem f189_23 : zf 189 23 = some (.isub) := cf189_0.2.2.2.2.2.2.2.2.2.2.2.2.2.2.1
theorem f189_24 : zf 189 24 = some (.if_icmp .gt 995) := cf189_0.2.2.2.2.2.2.2.2.2.2.2.2.2.2.2
theorem cf189_27 : zf 189 27 = some (.aload_n 0) ∧ zf 189 28 = some (.iload_n 3) ∧ zf 189 29 = some (.iaload) ∧ zf 189 30 = some (.bipush 31) ∧ zf 189 32 = some (.iand) ∧ zf 189 33 = some (.tableswitch 980 0 26 #[123, 156, 199, 232, 265, 298, 341, 374, 423, 456, 479, 502, 525, 558, 581, 604, 627, 660, 693, 716, 749, 772, 795, 858, 901, 924, 967]) ∧ zf 189 156 = some (.aload_n 1) ∧ zf 189 157 = some (.aload_n 0) ∧ zf 189 158 = some (.iload_n 3) ∧ zf 189 159 = some (.iconst 1) ∧ zf 189 160 = some (.iadd) ∧ zf 189 161 = some (.iaload) ∧ zf 189 162 = some (.aload_n 0) ∧ zf 189 163 = some (.iload_n 3) ∧ zf 189 164 = some (.iconst 2) ∧ zf 189 165 = some (.iadd) := by decide +kernel
theorem f189_27 : zf 189 27 = some (.aload_n 0) := cf189_27.1
theorem f189_28 : zf 189 28 = some (.iload_n 3) := cf189_27.2.1
theorem f189_29 : zf 189 29 = some (.iaload) := cf189_27.2.2.1
theorem f189_30 : zf 189 30 = some (.bipush 31) := cf189_27.2.2.2.1
theorem f189_32 : zf 189 32 = some (.iand) := cf189_27.2.2.2.2.1
theorem f189_33 : zf 189 33 = some (.tableswitch 980 0 26 #[123, 156, 199, 232, 265, 298, 341, 374, 423, 456, 479, 502, 525, 558, 581, 604, 627, 660, 693, 716, 749, 772, 795, 858, 901, 924, 967]) := cf189_27.2.2.2.2.2.1
theorem f189_156 : zf 189 156 = some (.aload_n 1) := cf189_27.2.2.2.2.2.2.1
theorem f189_157 : zf 189 157 = some (.aload_n 0) := cf189_27.2.2.2.2.2.2.2.1
theorem f189_158 : zf 189 158 = some (.iload_n 3) := cf189_27.2.2.2.2.2.2.2.2.1
theorem f189_159 : zf 189 159 = some (.iconst 1) := cf189_27.2.2.2.2.2.2.2.2.2.1
theorem f189_160 : zf 189 160 = some (.iadd) := cf189_27.2.2.2.2.2.2.2.2.2.2.1
theorem f189_161 : zf 189 161 = some (.iaload) := cf189_27.2.2.2.2.2.2.2.2.2.2.2.1
theorem f189_162 : zf 189 162 = some (.aload_n 0) := cf189_27.2.2.2.2.2.2.2.2.2.2.2.2.1
theorem f189_163 : zf 189 163 = some (.iload_n 3) := cf189_27.2.2.2.2.2.2.2.2.2.2.2.2.2.1
theorem f189_164 : zf 189 164 = some (.iconst 2) := cf189_27.2.2.2.2.2.2.2.2.2.2.2.2.2.2.1
theorem f189_165 : zf 189 165 = some (.iadd) := cf189_27.2.2.2.2.2.2.2.2.2.2.2.2.2.2.2
theorem cf189_166 : zf 189 166 = some (.iaload) ∧ zf 189 167 = some (.invokevirtual 13) ∧ zf 189 170 = some (.pop) ∧ zf 189 171 = some (.aload_n 2) ∧ zf 189 172 = some (.aload_n 0) ∧ zf 189 173 = some (.iload_n 3) ∧ zf 189 174 = some (.iconst 1) ∧ zf 189 175 = some (.iadd) ∧ zf 189 176 = some (.iaload) ∧ zf 189 177 = some (.aload_n 0) ∧ zf 189 178 = some (.iload_n 3) ∧ zf 189 179 = some (.iconst 2) ∧ zf 189 180 = some (.iadd) ∧ zf 189 181 = some (.iaload) ∧ zf 189 182 = some (.invokevirtual 17) ∧ zf 189 185 = some (.pop) := by decide +kernel
theorem f189_166 : zf 189 166 = some (.iaload) := cf189_166.1
theorem f189_167 : zf 189 167 = some (.invokevirtual 13) := cf189_166.2.1
theorem f189_170 : zf 189 170 = some (.pop) := cf189_166.2.2.1
theorem f189_171 : zf 189 171 = some (.aload_n 2) := cf189_166.2.2.2.1
theorem f189_172 : zf 189 172 = some (.aload_n 0) := cf189_166.2.2.2.2.1
theorem f189_173 : zf 189 173 = some (.iload_n 3) := cf189_166.2.2.2.2.2.1
theorem f189_174 : zf 189 174 = some (.iconst 1) := cf189_166.2.2.2.2.2.2.1
theorem f189_175 : zf 189 175 = some (.iadd) := cf189_166.2.2.2.2.2.2.2.1
theorem f189_176 : zf 189 176 = some (.iaload) := cf189_166.2.2.2.2.2.2.2.2.1
theorem f189_177 : zf 189 177 = some (.aload_n 0) := cf189_166.2.2.2.2.2.2.2.2.2.1
theorem f189_178 : zf 189 178 = some (.iload_n 3) := cf189_166.2.2.2.2.2.2.2.2.2.2.1
theorem f189_179 : zf 189 179 = some (.iconst 2) := cf189_166.2.2.2.2.2.2.2.2.2.2.2.1
theorem f189_180 : zf 189 180 = some (.iadd) := cf189_166.2.2.2.2.2.2.2.2.2.2.2.2.1
theorem f189_181 : zf 189 181 = some (.iaload) := cf189_166.2.2.2.2.2.2.2.2.2.2.2.2.2.1
theorem f189_182 : zf 189 182 = some (.invokevirtual 17) := cf189_166.2.2.2.2.2.2.2.2.2.2.2.2.2.2.1
theorem f189_185 : zf 189 185 = some (.pop) := cf189_166.2.2.2.2.2.2.2.2.2.2.2.2.2.2.2
theorem cf189_186 : zf 189 186 = some (.goto 827) ∧ zf 189 189 = some (.aload_n 1) ∧ zf 189 190 = some (.aload_n 0) ∧ zf 189 191 = some (.iload_n 3) ∧ zf 189 192 = some (.iconst 1) ∧ zf 189 193 = some (.iadd) ∧ zf 189 194 = some (.iaload) ∧ zf 189 195 = some (.aload_n 0) ∧ zf 189 196 = some (.iload_n 3) ∧ zf 189 197 = some (.iconst 2) ∧ zf 189 198 = some (.iadd) ∧ zf 189 199 = some (.iaload) ∧ zf 189 200 = some (.aload_n 0) ∧ zf 189 201 = some (.iload_n 3) ∧ zf 189 202 = some (.iconst 3) ∧ zf 189 203 = some (.iadd) := by decide +kernel
theorem f189_186 : zf 189 186 = some (.goto 827) := cf189_186.1
theorem f189_189 : zf 189 189 = some (.aload_n 1) := cf189_186.2.1
theorem f189_190 : zf 189 190 = some (.aload_n 0) := cf189_186.2.2.1
theorem f189_191 : zf 189 191 = some (.iload_n 3) := cf189_186.2.2.2.1
theorem f189_192 : zf 189 192 = some (.iconst 1) := cf189_186.2.2.2.2.1
theorem f189_193 : zf 189 193 = some (.iadd) := cf189_186.2.2.2.2.2.1
theorem f189_194 : zf 189 194 = some (.iaload) := cf189_186.2.2.2.2.2.2.1
theorem f189_195 : zf 189 195 = some (.aload_n 0) := cf189_186.2.2.2.2.2.2.2.1
theorem f189_196 : zf 189 196 = some (.iload_n 3) := cf189_186.2.2.2.2.2.2.2.2.1
theorem f189_197 : zf 189 197 = some (.iconst 2) := cf189_186.2.2.2.2.2.2.2.2.2.1
theorem f189_198 : zf 189 198 = some (.iadd) := cf189_186.2.2.2.2.2.2.2.2.2.2.1
theorem f189_199 : zf 189 199 = some (.iaload) := cf189_186.2.2.2.2.2.2.2.2.2.2.2.1
theorem f189_200 : zf 189 200 = some (.aload_n 0) := cf189_186.2.2.2.2.2.2.2.2.2.2.2.2.1
theorem f189_201 : zf 189 201 = some (.iload_n 3) := cf189_186.2.2.2.2.2.2.2.2.2.2.2.2.2.1
theorem f189_202 : zf 189 202 = some (.iconst 3) := cf189_186.2.2.2.2.2.2.2.2.2.2.2.2.2.2.1
theorem f189_203 : zf 189 203 = some (.iadd) := cf189_186.2.2.2.2.2.2.2.2.2.2.2.2.2.2.2
theorem cf189_204 : zf 189 204 = some (.iaload) ∧ zf 189 205 = some (.invokevirtual 18) ∧ zf 189 208 = some (.pop) ∧ zf 189 209 = some (.aload_n 2) ∧ zf 189 210 = some (.aload_n 0) ∧ zf 189 211 = some (.iload_n 3) ∧ zf 189 212 = some (.iconst 1) ∧ zf 189 213 = some (.iadd) ∧ zf 189 214 = some (.iaload) ∧ zf 189 215 = some (.aload_n 0) ∧ zf 189 216 = some (.iload_n 3) ∧ zf 189 217 = some (.iconst 2) ∧ zf 189 218 = some (.iadd) ∧ zf 189 219 = some (.iaload) ∧ zf 189 220 = some (.aload_n 0) ∧ zf 189 221 = some (.iload_n 3) := by decide +kernel
theorem f189_204 : zf 189 204 = some (.iaload) := cf189_204.1
theorem f189_205 : zf 189 205 = some (.invokevirtual 18) := cf189_204.2.1
theorem f189_208 : zf 189 208 = some (.pop) := cf189_204.2.2.1
theorem f189_209 : zf 189 209 = some (.aload_n 2) := cf189_204.2.2.2.1
theorem f189_210 : zf 189 210 = some (.aload_n 0) := cf189_204.2.2.2.2.1
theorem f189_211 : zf 189 211 = some (.iload_n 3) := cf189_204.2.2.2.2.2.1
theorem f189_212 : zf 189 212 = some (.iconst 1) := cf189_204.2.2.2.2.2.2.1
theorem f189_213 : zf 189 213 = some (.iadd) := cf189_204.2.2.2.2.2.2.2.1
theorem f189_214 : zf 189 214 = some (.iaload) := cf189_204.2.2.2.2.2.2.2.2.1
theorem f189_215 : zf 189 215 = some (.aload_n 0) := cf189_204.2.2.2.2.2.2.2.2.2.1
theorem f189_216 : zf 189 216 = some (.iload_n 3) := cf189_204.2.2.2.2.2.2.2.2.2.2.1
theorem f189_217 : zf 189 217 = some (.iconst 2) := cf189_204.2.2.2.2.2.2.2.2.2.2.2.1
theorem f189_218 : zf 189 218 = some (.iadd) := cf189_204.2.2.2.2.2.2.2.2.2.2.2.2.1
theorem f189_219 : zf 189 219 = some (.iaload) := cf189_204.2.2.2.2.2.2.2.2.2.2.2.2.2.1
theorem f189_220 : zf 189 220 = some (.aload_n 0) := cf189_204.2.2.2.2.2.2.2.2.2.2.2.2.2.2.1
theorem f189_221 : zf 189 221 = some (.iload_n 3) := cf189_204.2.2.2.2.2.2.2.2.2.2.2.2.2.2.2
theorem cf189_222 : zf 189 222 = some (.iconst 3) ∧ zf 189 223 = some (.iadd) ∧ zf 189 224 = some (.iaload) ∧ zf 189 225 = some (.invokevirtual 22) ∧ zf 189 228 = some (.pop) ∧ zf 189 229 = some (.goto 784) ∧ zf 189 232 = some (.aload_n 1) ∧ zf 189 233 = some (.aload_n 0) ∧ zf 189 234 = some (.iload_n 3) ∧ zf 189 235 = some (.iconst 1) ∧ zf 189 236 = some (.iadd) ∧ zf 189 237 = some (.iaload) ∧ zf 189 238 = some (.aload_n 0) ∧ zf 189 239 = some (.iload_n 3) ∧ zf 189 240 = some (.iconst 2) ∧ zf 189 241 = some (.iadd) := by decide +kernel
theorem f189_222 : zf 189 222 = some (.iconst 3) := cf189_222.1
theorem f189_223 : zf 189 223 = some (.iadd) := cf189_222.2.1
theorem f189_224 : zf 189 224 = some (.iaload) := cf189_222.2.2.1
theorem f189_225 : zf 189 225 = some (.invokevirtual 22) := cf189_222.2.2.2.1
theorem f189_228 : zf 189 228 = some (.pop) := cf189_222.2.2.2.2.1
theorem f189_229 : zf 189 229 = some (.goto 784) := cf189_222.2.2.2.2.2.1
theorem f189_232 : zf 189 232 = some (.aload_n 1) := cf189_222.2.2.2.2.2.2.1
theorem f189_233 : zf 189 233 = some (.aload_n 0) := cf189_222.2.2.2.2.2.2.2.1
theorem f189_234 : zf 189 234 = some (.iload_n 3) := cf189_222.2.2.2.2.2.2.2.2.1
theorem f189_235 : zf 189 235 = some (.iconst 1) := cf189_222.2.2.2.2.2.2.2.2.2.1
theorem f189_236 : zf 189 236 = some (.iadd) := cf189_222.2.2.2.2.2.2.2.2.2.2.1
theorem f189_237 : zf 189 237 = some (.iaload) := cf189_222.2.2.2.2.2.2.2.2.2.2.2.1
theorem f189_238 : zf 189 238 = some (.aload_n 0) := cf189_222.2.2.2.2.2.2.2.2.2.2.2.2.1
theorem f189_239 : zf 189 239 = some (.iload_n 3) := cf189_222.2.2.2.2.2.2.2.2.2.2.2.2.2.1
theorem f189_240 : zf 189 240 = some (.iconst 2) := cf189_222.2.2.2.2.2.2.2.2.2.2.2.2.2.2.1
theorem f189_241 : zf 189 241 = some (.iadd) := cf189_222.2.2.2.2.2.2.2.2.2.2.2.2.2.2.2
theorem cf189_242 : zf 189 242 = some (.iaload) ∧ zf 189 243 = some (.invokevirtual 23) ∧ zf 189 246 = some (.pop) ∧ zf 189 247 = some (.aload_n 2) ∧ zf 189 248 = some (.aload_n 0) ∧ zf 189 249 = some (.iload_n 3) ∧ zf 189 250 = some (.iconst 1) ∧ zf 189 251 = some (.iadd) ∧ zf 189 252 = some (.iaload) ∧ zf 189 253 = some (.aload_n 0) ∧ zf 189 254 = some (.iload_n 3) ∧ zf 189 255 = some (.iconst 2) ∧ zf 189 256 = some (.iadd) ∧ zf 189 257 = some (.iaload) ∧ zf 189 258 = some (.invokevirtual 26) ∧ zf 189 261 = some (.pop) := by decide +kernel
theorem f189_242 : zf 189 242 = some (.iaload) := cf189_242.1
theorem f189_243 : zf 189 243 = some (.invokevirtual 23) := cf189_242.2.1
theorem f189_246 : zf 189 246 = some (.pop) := cf189_242.2.2.1
theorem f189_247 : zf 189 247 = some (.aload_n 2) := cf189_242.2.2.2.1
theorem f189_248 : zf 189 248 = some (.aload_n 0) := cf189_242.2.2.2.2.1
theorem f189_249 : zf 189 249 = some (.iload_n 3) := cf189_242.2.2.2.2.2.1
theorem f189_250 : zf 189 250 = some (.iconst 1) := cf189_242.2.2.2.2.2.2.1
theorem f189_251 : zf 189 251 = some (.iadd) := cf189_242.2.2.2.2.2.2.2.1
theorem f189_252 : zf 189 252 = some (.iaload) := cf189_242.2.2.2.2.2.2.2.2.1
theorem f189_253 : zf 189 253 = some (.aload_n 0) := cf189_242.2.2.2.2.2.2.2.2.2.1
theorem f189_254 : zf 189 254 = some (.iload_n 3) := cf189_242.2.2.2.2.2.2.2.2.2.2.1
theorem f189_255 : zf 189 255 = some (.iconst 2) := cf189_242.2.2.2.2.2.2.2.2.2.2.2.1
theorem f189_256 : zf 189 256 = some (.iadd) := cf189_242.2.2.2.2.2.2.2.2.2.2.2.2.1
theorem f189_257 : zf 189 257 = some (.iaload) := cf189_242.2.2.2.2.2.2.2.2.2.2.2.2.2.1
theorem f189_258 : zf 189 258 = some (.invokevirtual 26) := cf189_242.2.2.2.2.2.2.2.2.2.2.2.2.2.2.1
theorem f189_261 : zf 189 261 = some (.pop) := cf189_242.2.2.2.2.2.2.2.2.2.2.2.2.2.2.2
theorem cf189_262 : zf 189 262 = some (.goto 751) ∧ zf 189 265 = some (.aload_n 1) ∧ zf 189 266 = some (.aload_n 0) ∧ zf 189 267 = some (.iload_n 3) ∧ zf 189 268 = some (.iconst 1) ∧ zf 189 269 = some (.iadd) ∧ zf 189 270 = some (.iaload) ∧ zf 189 271 = some (.aload_n 0) ∧ zf 189 272 = some (.iload_n 3) ∧ zf 189 273 = some (.iconst 2) ∧ zf 189 274 = some (.iadd) ∧ zf 189 275 = some (.iaload) ∧ zf 189 276 = some (.invokevirtual 27) ∧ zf 189 279 = some (.pop) ∧ zf 189 280 = some (.aload_n 2) ∧ zf 189 281 = some (.aload_n 0) := by decide +kernel
theorem f189_262 : zf 189 262 = some (.goto 751) := cf189_262.1
theorem f189_265 : zf 189 265 = some (.aload_n 1) := cf189_262.2.1
theorem f189_266 : zf 189 266 = some (.aload_n 0) := cf189_262.2.2.1
theorem f189_267 : zf 189 267 = some (.iload_n 3) := cf189_262.2.2.2.1
theorem f189_268 : zf 189 268 = some (.iconst 1) := cf189_262.2.2.2.2.1
theorem f189_269 : zf 189 269 = some (.iadd) := cf189_262.2.2.2.2.2.1
theorem f189_270 : zf 189 270 = some (.iaload) := cf189_262.2.2.2.2.2.2.1
theorem f189_271 : zf 189 271 = some (.aload_n 0) := cf189_262.2.2.2.2.2.2.2.1
theorem f189_272 : zf 189 272 = some (.iload_n 3) := cf189_262.2.2.2.2.2.2.2.2.1
theorem f189_273 : zf 189 273 = some (.iconst 2) := cf189_262.2.2.2.2.2.2.2.2.2.1
theorem f189_274 : zf 189 274 = some (.iadd) := cf189_262.2.2.2.2.2.2.2.2.2.2.1
theorem f189_275 : zf 189 275 = some (.iaload) := cf189_262.2.2.2.2.2.2.2.2.2.2.2.1
theorem f189_276 : zf 189 276 = some (.invokevirtual 27) := cf189_262.2.2.2.2.2.2.2.2.2.2.2.2.1
theorem f189_279 : zf 189 279 = some (.pop) := cf189_262.2.2.2.2.2.2.2.2.2.2.2.2.2.1
theorem f189_280 : zf 189 280 = some (.aload_n 2) := cf189_262.2.2.2.2.2.2.2.2.2.2.2.2.2.2.1
theorem f189_281 : zf 189 281 = some (.aload_n 0) := cf189_262.2.2.2.2.2.2.2.2.2.2.2.2.2.2.2
theorem cf189_282 : zf 189 282 = some (.iload_n 3) ∧ zf 189 283 = some (.iconst 1) ∧ zf 189 284 = some (.iadd) ∧ zf 189 285 = some (.iaload) ∧ zf 189 286 = some (.aload_n 0) ∧ zf 189 287 = some (.iload_n 3) ∧ zf 189 288 = some (.iconst 2) ∧ zf 189 289 = some (.iadd) ∧ zf 189 290 = some (.iaload) ∧ zf 189 291 = some (.invokevirtual 30) ∧ zf 189 294 = some (.pop) ∧ zf 189 295 = some (.goto 718) ∧ zf 189 298 = some (.aload_n 1) ∧ zf 189 299 = some (.aload_n 0) ∧ zf 189 300 = some (.iload_n 3) ∧ zf 189 301 = some (.iconst 1) := by decide +kernel
theorem f189_282 : zf 189 282 = some (.iload_n 3) := cf189_282.1
theorem f189_283 : zf 189 283 = some (.iconst 1) := cf189_282.2.1
theorem f189_284 : zf 189 284 = some (.iadd) := cf189_282.2.2.1
theorem f189_285 : zf 189 285 = some (.iaload) := cf189_282.2.2.2.1
theorem f189_286 : zf 189 286 = some (.aload_n 0) := cf189_282.2.2.2.2.1
theorem f189_287 : zf 189 287 = some (.iload_n 3) := cf189_282.2.2.2.2.2.1
theorem f189_288 : zf 189 288 = some (.iconst 2) := cf189_282.2.2.2.2.2.2.1
theorem f189_289 : zf 189 289 = some (.iadd) := cf189_282.2.2.2.2.2.2.2.1
theorem f189_290 : zf 189 290 = some (.iaload) := cf189_282.2.2.2.2.2.2.2.2.1
theorem f189_291 : zf 189 291 = some (.invokevirtual 30) := cf189_282.2.2.2.2.2.2.2.2.2.1
theorem f189_294 : zf 189 294 = some (.pop) := cf189_282.2.2.2.2.2.2.2.2.2.2.1
theorem f189_295 : zf 189 295 = some (.goto 718) := cf189_282.2.2.2.2.2.2.2.2.2.2.2.1
theorem f189_298 : zf 189 298 = some (.aload_n 1) := cf189_282.2.2.2.2.2.2.2.2.2.2.2.2.1
theorem f189_299 : zf 189 299 = some (.aload_n 0) := cf189_282.2.2.2.2.2.2.2.2.2.2.2.2.2.1
theorem f189_300 : zf 189 300 = some (.iload_n 3) := cf189_282.2.2.2.2.2.2.2.2.2.2.2.2.2.2.1
theorem f189_301 : zf 189 301 = some (.iconst 1) := cf189_282.2.2.2.2.2.2.2.2.2.2.2.2.2.2.2
theorem cf189_302 : zf 189 302 = some (.iadd) ∧ zf 189 303 = some (.iaload) ∧ zf 189 304 = some (.aload_n 0) ∧ zf 189 305 = some (.iload_n 3) ∧ zf 189 306 = some (.iconst 2) ∧ zf 189 307 = some (.iadd) ∧ zf 189 308 = some (.iaload) ∧ zf 189 309 = some (.invokevirtual 31) ∧ zf 189 312 = some (.pop) ∧ zf 189 313 = some (.aload_n 2) ∧ zf 189 314 = some (.aload_n 0) ∧ zf 189 315 = some (.iload_n 3) ∧ zf 189 316 = some (.iconst 1) ∧ zf 189 317 = some (.iadd) ∧ zf 189 318 = some (.iaload) ∧ zf 189 319 = some (.aload_n 0) := by decide +kernel
theorem f189_302 : zf 189 302 = some (.iadd) := cf189_302.1
theorem f189_303 : zf 189 303 = some (.iaload) := cf189_302.2.1
theorem f189_304 : zf 189 304 = some (.aload_n 0) := cf189_302.2.2.1
theorem f189_305 : zf 189 305 = some (.iload_n 3) := cf189_302.2.2.2.1
theorem f189_306 : zf 189 306 = some (.iconst 2) := cf189_302.2.2.2.2.1
theorem f189_307 : zf 189 307 = some (.iadd) := cf189_302.2.2.2.2.2.1
theorem f189_308 : zf 189 308 = some (.iaload) := cf189_302.2.2.2.2.2.2.1
theorem f189_309 : zf 189 309 = some (.invokevirtual 31) := cf189_302.2.2.2.2.2.2.2.1
theorem f189_312 : zf 189 312 = some (.pop) := cf189_302.2.2.2.2.2.2.2.2.1
theorem f189_313 : zf 189 313 = some (.aload_n 2) := cf189_302.2.2.2.2.2.2.2.2.2.1
theorem f189_314 : zf 189 314 = some (.aload_n 0) := cf189_302.2.2.2.2.2.2.2.2.2.2.1
theorem f189_315 : zf 189 315 = some (.iload_n 3) := cf189_302.2.2.2.2.2.2.2.2.2.2.2.1
theorem f189_316 : zf 189 316 = some (.iconst 1) := cf189_302.2.2.2.2.2.2.2.2.2.2.2.2.1
theorem f189_317 : zf 189 317 = some (.iadd) := cf189_302.2.2.2.2.2.2.2.2.2.2.2.2.2.1
theorem f189_318 : zf 189 318 = some (.iaload) := cf189_302.2.2.2.2.2.2.2.2.2.2.2.2.2.2.1
theorem f189_319 : zf 189 319 = some (.aload_n 0) := cf189_302.2.2.2.2.2.2.2.2.2.2.2.2.2.2.2
theorem cf189_320 : zf 189 320 = some (.iload_n 3) ∧ zf 189 321 = some (.iconst 2) ∧ zf 189 322 = some (.iadd) ∧ zf 189 323 = some (.iaload) ∧ zf 189 324 = some (.invokevirtual 34) ∧ zf 189 327 = some (.pop) ∧ zf 189 328 = some (.goto 685) ∧ zf 189 331 = some (.aload_n 1) ∧ zf 189 332 = some (.aload_n 0) ∧ zf 189 333 = some (.iload_n 3) ∧ zf 189 334 = some (.iconst 1) ∧ zf 189 335 = some (.iadd) ∧ zf 189 336 = some (.iaload) ∧ zf 189 337 = some (.aload_n 0) ∧ zf 189 338 = some (.iload_n 3) ∧ zf 189 339 = some (.iconst 2) := by decide +kernel
theorem f189_320 : zf 189 320 = some (.iload_n 3) := cf189_320.1
theorem f189_321 : zf 189 321 = some (.iconst 2) := cf189_320.2.1
theorem f189_322 : zf 189 322 = some (.iadd) := cf189_320.2.2.1
theorem f189_323 : zf 189 323 = some (.iaload) := cf189_320.2.2.2.1
theorem f189_324 : zf 189 324 = some (.invokevirtual 34) := cf189_320.2.2.2.2.1
theorem f189_327 : zf 189 327 = some (.pop) := cf189_320.2.2.2.2.2.1
theorem f189_328 : zf 189 328 = some (.goto 685) := cf189_320.2.2.2.2.2.2.1
theorem f189_331 : zf 189 331 = some (.aload_n 1) := cf189_320.2.2.2.2.2.2.2.1
theorem f189_332 : zf 189 332 = some (.aload_n 0) := cf189_320.2.2.2.2.2.2.2.2.1
theorem f189_333 : zf 189 333 = some (.iload_n 3) := cf189_320.2.2.2.2.2.2.2.2.2.1
theorem f189_334 : zf 189 334 = some (.iconst 1) := cf189_320.2.2.2.2.2.2.2.2.2.2.1
theorem f189_335 : zf 189 335 = some (.iadd) := cf189_320.2.2.2.2.2.2.2.2.2.2.2.1
theorem f189_336 : zf 189 336 = some (.iaload) := cf189_320.2.2.2.2.2.2.2.2.2.2.2.2.1
theorem f189_337 : zf 189 337 = some (.aload_n 0) := cf189_320.2.2.2.2.2.2.2.2.2.2.2.2.2.1
theorem f189_338 : zf 189 338 = some (.iload_n 3) := cf189_320.2.2.2.2.2.2.2.2.2.2.2.2.2.2.1
theorem f189_339 : zf 189 339 = some (.iconst 2) := cf189_320.2.2.2.2.2.2.2.2.2.2.2.2.2.2.2
theorem cf189_340 : zf 189 340 = some (.iadd) ∧ zf 189 341 = some (.iaload) ∧ zf 189 342 = some (.aload_n 0) ∧ zf 189 343 = some (.iload_n 3) ∧ zf 189 344 = some (.iconst 3) ∧ zf 189 345 = some (.iadd) ∧ zf 189 346 = some (.iaload) ∧ zf 189 347 = some (.invokevirtual 35) ∧ zf 189 350 = some (.aload_n 2) ∧ zf 189 351 = some (.aload_n 0) ∧ zf 189 352 = some (.iload_n 3) ∧ zf 189 353 = some (.iconst 1) ∧ zf 189 354 = some (.iadd) ∧ zf 189 355 = some (.iaload) ∧ zf 189 356 = some (.aload_n 0) ∧ zf 189 357 = some (.iload_n 3) := by decide +kernel
theorem f189_340 : zf 189 340 = some (.iadd) := cf189_340.1
theorem f189_341 : zf 189 341 = some (.iaload) := cf189_340.2.1
theorem f189_342 : zf 189 342 = some (.aload_n 0) := cf189_340.2.2.1
theorem f189_343 : zf 189 343 = some (.iload_n 3) := cf189_340.2.2.2.1
theorem f189_344 : zf 189 344 = some (.iconst 3) := cf189_340.2.2.2.2.1
theorem f189_345 : zf 189 345 = some (.iadd) := cf189_340.2.2.2.2.2.1
theorem f189_346 : zf 189 346 = some (.iaload) := cf189_340.2.2.2.2.2.2.1
theorem f189_347 : zf 189 347 = some (.invokevirtual 35) := cf189_340.2.2.2.2.2.2.2.1
theorem f189_350 : zf 189 350 = some (.aload_n 2) := cf189_340.2.2.2.2.2.2.2.2.1
theorem f189_351 : zf 189 351 = some (.aload_n 0) := cf189_340.2.2.2.2.2.2.2.2.2.1
theorem f189_352 : zf 189 352 = some (.iload_n 3) := cf189_340.2.2.2.2.2.2.2.2.2.2.1
theorem f189_353 : zf 189 353 = some (.iconst 1) := cf189_340.2.2.2.2.2.2.2.2.2.2.2.1
theorem f189_354 : zf 189 354 = some (.iadd) := cf189_340.2.2.2.2.2.2.2.2.2.2.2.2.1
theorem f189_355 : zf 189 355 = some (.iaload) := cf189_340.2.2.2.2.2.2.2.2.2.2.2.2.2.1
theorem f189_356 : zf 189 356 = some (.aload_n 0) := cf189_340.2.2.2.2.2.2.2.2.2.2.2.2.2.2.1
theorem f189_357 : zf 189 357 = some (.iload_n 3) := cf189_340.2.2.2.2.2.2.2.2.2.2.2.2.2.2.2
theorem cf189_358 : zf 189 358 = some (.iconst 2) ∧ zf 189 359 = some (.iadd) ∧ zf 189 360 = some (.iaload) ∧ zf 189 361 = some (.aload_n 0) ∧ zf 189 362 = some (.iload_n 3) ∧ zf 189 363 = some (.iconst 3) ∧ zf 189 364 = some (.iadd) ∧ zf 189 365 = some (.iaload) ∧ zf 189 366 = some (.invokevirtual 38) ∧ zf 189 369 = some (.if_icmp .eq 644) ∧ zf 189 372 = some (.iconst 0) ∧ zf 189 373 = some (.ireturn) ∧ zf 189 374 = some (.aload_n 1) ∧ zf 189 375 = some (.aload_n 0) ∧ zf 189 376 = some (.iload_n 3) ∧ zf 189 377 = some (.iconst 1) := by decide +kernel
theorem f189_358 : zf 189 358 = some (.iconst 2) := cf189_358.1
theorem f189_359 : zf 189 359 = some (.iadd) := cf189_358.2.1
theorem f189_360 : zf 189 360 = some (.iaload) := cf189_358.2.2.1
theorem f189_361 : zf 189 361 = some (.aload_n 0) := cf189_358.2.2.2.1
theorem f189_362 : zf 189 362 = some (.iload_n 3) := cf189_358.2.2.2.2.1
theorem f189_363 : zf 189 363 = some (.iconst 3) := cf189_358.2.2.2.2.2.1
theorem f189_364 : zf 189 364 = some (.iadd) := cf189_358.2.2.2.2.2.2.1
theorem f189_365 : zf 189 365 = some (.iaload) := cf189_358.2.2.2.2.2.2.2.1
theorem f189_366 : zf 189 366 = some (.invokevirtual 38) := cf189_358.2.2.2.2.2.2.2.2.1
theorem f189_369 : zf 189 369 = some (.if_icmp .eq 644) := cf189_358.2.2.2.2.2.2.2.2.2.1
theorem f189_372 : zf 189 372 = some (.iconst 0) := cf189_358.2.2.2.2.2.2.2.2.2.2.1
theorem f189_373 : zf 189 373 = some (.ireturn) := cf189_358.2.2.2.2.2.2.2.2.2.2.2.1
theorem f189_374 : zf 189 374 = some (.aload_n 1) := cf189_358.2.2.2.2.2.2.2.2.2.2.2.2.1
theorem f189_375 : zf 189 375 = some (.aload_n 0) := cf189_358.2.2.2.2.2.2.2.2.2.2.2.2.2.1
theorem f189_376 : zf 189 376 = some (.iload_n 3) := cf189_358.2.2.2.2.2.2.2.2.2.2.2.2.2.2.1
theorem f189_377 : zf 189 377 = some (.iconst 1) := cf189_358.2.2.2.2.2.2.2.2.2.2.2.2.2.2.2
theorem cf189_378 : zf 189 378 = some (.iadd) ∧ zf 189 379 = some (.iaload) ∧ zf 189 380 = some (.aload_n 0) ∧ zf 189 381 = some (.iload_n 3) ∧ zf 189 382 = some (.iconst 2) ∧ zf 189 383 = some (.iadd) ∧ zf 189 384 = some (.iaload) ∧ zf 189 385 = some (.invokevirtual 39) ∧ zf 189 388 = some (.pop) ∧ zf 189 389 = some (.aload_n 2) ∧ zf 189 390 = some (.aload_n 0) ∧ zf 189 391 = some (.iload_n 3) ∧ zf 189 392 = some (.iconst 1) ∧ zf 189 393 = some (.iadd) ∧ zf 189 394 = some (.iaload) ∧ zf 189 395 = some (.aload_n 0) := by decide +kernel
theorem f189_378 : zf 189 378 = some (.iadd) := cf189_378.1
theorem f189_379 : zf 189 379 = some (.iaload) := cf189_378.2.1
theorem f189_380 : zf 189 380 = some (.aload_n 0) := cf189_378.2.2.1
theorem f189_381 : zf 189 381 = some (.iload_n 3) := cf189_378.2.2.2.1
theorem f189_382 : zf 189 382 = some (.iconst 2) := cf189_378.2.2.2.2.1
theorem f189_383 : zf 189 383 = some (.iadd) := cf189_378.2.2.2.2.2.1
theorem f189_384 : zf 189 384 = some (.iaload) := cf189_378.2.2.2.2.2.2.1
theorem f189_385 : zf 189 385 = some (.invokevirtual 39) := cf189_378.2.2.2.2.2.2.2.1
theorem f189_388 : zf 189 388 = some (.pop) := cf189_378.2.2.2.2.2.2.2.2.1
theorem f189_389 : zf 189 389 = some (.aload_n 2) := cf189_378.2.2.2.2.2.2.2.2.2.1
theorem f189_390 : zf 189 390 = some (.aload_n 0) := cf189_378.2.2.2.2.2.2.2.2.2.2.1
theorem f189_391 : zf 189 391 = some (.iload_n 3) := cf189_378.2.2.2.2.2.2.2.2.2.2.2.1
theorem f189_392 : zf 189 392 = some (.iconst 1) := cf189_378.2.2.2.2.2.2.2.2.2.2.2.2.1
theorem f189_393 : zf 189 393 = some (.iadd) := cf189_378.2.2.2.2.2.2.2.2.2.2.2.2.2.1
theorem f189_394 : zf 189 394 = some (.iaload) := cf189_378.2.2.2.2.2.2.2.2.2.2.2.2.2.2.1
theorem f189_395 : zf 189 395 = some (.aload_n 0) := cf189_378.2.2.2.2.2.2.2.2.2.2.2.2.2.2.2
theorem cf189_396 : zf 189 396 = some (.iload_n 3) ∧ zf 189 397 = some (.iconst 2) ∧ zf 189 398 = some (.iadd) ∧ zf 189 399 = some (.iaload) ∧ zf 189 400 = some (.invokevirtual 42) ∧ zf 189 403 = some (.pop) ∧ zf 189 404 = some (.goto 609) ∧ zf 189 407 = some (.aload_n 1) ∧ zf 189 408 = some (.aload_n 0) ∧ zf 189 409 = some (.iload_n 3) ∧ zf 189 410 = some (.iconst 1) ∧ zf 189 411 = some (.iadd) ∧ zf 189 412 = some (.iaload) ∧ zf 189 413 = some (.aload_n 0) ∧ zf 189 414 = some (.iload_n 3) ∧ zf 189 415 = some (.iconst 2) := by decide +kernel
theorem f189_396 : zf 189 396 = some (.iload_n 3) := cf189_396.1
theorem f189_397 : zf 189 397 = some (.iconst 2) := cf189_396.2.1
theorem f189_398 : zf 189 398 = some (.iadd) := cf189_396.2.2.1
theorem f189_399 : zf 189 399 = some (.iaload) := cf189_396.2.2.2.1
theorem f189_400 : zf 189 400 = some (.invokevirtual 42) := cf189_396.2.2.2.2.1
theorem f189_403 : zf 189 403 = some (.pop) := cf189_396.2.2.2.2.2.1
theorem f189_404 : zf 189 404 = some (.goto 609) := cf189_396.2.2.2.2.2.2.1
theorem f189_407 : zf 189 407 = some (.aload_n 1) := cf189_396.2.2.2.2.2.2.2.1
theorem f189_408 : zf 189 408 = some (.aload_n 0) := cf189_396.2.2.2.2.2.2.2.2.1
theorem f189_409 : zf 189 409 = some (.iload_n 3) := cf189_396.2.2.2.2.2.2.2.2.2.1
theorem f189_410 : zf 189 410 = some (.iconst 1) := cf189_396.2.2.2.2.2.2.2.2.2.2.1
theorem f189_411 : zf 189 411 = some (.iadd) := cf189_396.2.2.2.2.2.2.2.2.2.2.2.1
theorem f189_412 : zf 189 412 = some (.iaload) := cf189_396.2.2.2.2.2.2.2.2.2.2.2.2.1
theorem f189_413 : zf 189 413 = some (.aload_n 0) := cf189_396.2.2.2.2.2.2.2.2.2.2.2.2.2.1
theorem f189_414 : zf 189 414 = some (.iload_n 3) := cf189_396.2.2.2.2.2.2.2.2.2.2.2.2.2.2.1
theorem f189_415 : zf 189 415 = some (.iconst 2) := cf189_396.2.2.2.2.2.2.2.2.2.2.2.2.2.2.2
theorem cf189_416 : zf 189 416 = some (.iadd) ∧ zf 189 417 = some (.iaload) ∧ zf 189 418 = some (.ifCond .eq 7) ∧ zf 189 421 = some (.iconst 1) ∧ zf 189 422 = some (.goto 4) ∧ zf 189 425 = some (.iconst 0) ∧ zf 189 426 = some (.invokevirtual 43) ∧ zf 189 429 = some (.pop) ∧ zf 189 430 = some (.aload_n 2) ∧ zf 189 431 = some (.aload_n 0) ∧ zf 189 432 = some (.iload_n 3) ∧ zf 189 433 = some (.iconst 1) ∧ zf 189 434 = some (.iadd) ∧ zf 189 435 = some (.iaload) ∧ zf 189 436 = some (.aload_n 0) ∧ zf 189 437 = some (.iload_n 3) := by decide +kernel
theorem f189_416 : zf 189 416 = some (.iadd) := cf189_416.1
theorem f189_417 : zf 189 417 = some (.iaload) := cf189_416.2.1
theorem f189_418 : zf 189 418 = some (.ifCond .eq 7) := cf189_416.2.2.1
theorem f189_421 : zf 189 421 = some (.iconst 1) := cf189_416.2.2.2.1
theorem f189_422 : zf 189 422 = some (.goto 4) := cf189_416.2.2.2.2.1
theorem f189_425 : zf 189 425 = some (.iconst 0) := cf189_416.2.2.2.2.2.1
theorem f189_426 : zf 189 426 = some (.invokevirtual 43) := cf189_416.2.2.2.2.2.2.1
theorem f189_429 : zf 189 429 = some (.pop) := cf189_416.2.2.2.2.2.2.2.1
theorem f189_430 : zf 189 430 = some (.aload_n 2) := cf189_416.2.2.2.2.2.2.2.2.1
theorem f189_431 : zf 189 431 = some (.aload_n 0) := cf189_416.2.2.2.2.2.2.2.2.2.1
theorem f189_432 : zf 189 432 = some (.iload_n 3) := cf189_416.2.2.2.2.2.2.2.2.2.2.1
theorem f189_433 : zf 189 433 = some (.iconst 1) := cf189_416.2.2.2.2.2.2.2.2.2.2.2.1
theorem f189_434 : zf 189 434 = some (.iadd) := cf189_416.2.2.2.2.2.2.2.2.2.2.2.2.1
theorem f189_435 : zf 189 435 = some (.iaload) := cf189_416.2.2.2.2.2.2.2.2.2.2.2.2.2.1
theorem f189_436 : zf 189 436 = some (.aload_n 0) := cf189_416.2.2.2.2.2.2.2.2.2.2.2.2.2.2.1
theorem f189_437 : zf 189 437 = some (.iload_n 3) := cf189_416.2.2.2.2.2.2.2.2.2.2.2.2.2.2.2
theorem cf189_438 : zf 189 438 = some (.iconst 2) ∧ zf 189 439 = some (.iadd) ∧ zf 189 440 = some (.iaload) ∧ zf 189 441 = some (.ifCond .eq 7) ∧ zf 189 444 = some (.iconst 1) ∧ zf 189 445 = some (.goto 4) ∧ zf 189 448 = some (.iconst 0) ∧ zf 189 449 = some (.invokevirtual 47) ∧ zf 189 452 = some (.pop) ∧ zf 189 453 = some (.goto 560) ∧ zf 189 456 = some (.aload_n 1) ∧ zf 189 457 = some (.aload_n 0) ∧ zf 189 458 = some (.iload_n 3) ∧ zf 189 459 = some (.iconst 1) ∧ zf 189 460 = some (.iadd) ∧ zf 189 461 = some (.iaload) := by decide +kernel
theorem f189_438 : zf 189 438 = some (.iconst 2) := cf189_438.1
theorem f189_439 : zf 189 439 = some (.iadd) := cf189_438.2.1
theorem f189_440 : zf 189 440 = some (.iaload) := cf189_438.2.2.1
theorem f189_441 : zf 189 441 = some (.ifCond .eq 7) := cf189_438.2.2.2.1
theorem f189_444 : zf 189 444 = some (.iconst 1) := cf189_438.2.2.2.2.1
theorem f189_445 : zf 189 445 = some (.goto 4) := cf189_438.2.2.2.2.2.1
theorem f189_448 : zf 189 448 = some (.iconst 0) := cf189_438.2.2.2.2.2.2.1
theorem f189_449 : zf 189 449 = some (.invokevirtual 47) := cf189_438.2.2.2.2.2.2.2.1
theorem f189_452 : zf 189 452 = some (.pop) := cf189_438.2.2.2.2.2.2.2.2.1
theorem f189_453 : zf 189 453 = some (.goto 560) := cf189_438.2.2.2.2.2.2.2.2.2.1
theorem f189_456 : zf 189 456 = some (.aload_n 1) := cf189_438.2.2.2.2.2.2.2.2.2.2.1
theorem f189_457 : zf 189 457 = some (.aload_n 0) := cf189_438.2.2.2.2.2.2.2.2.2.2.2.1
theorem f189_458 : zf 189 458 = some (.iload_n 3) := cf189_438.2.2.2.2.2.2.2.2.2.2.2.2.1
theorem f189_459 : zf 189 459 = some (.iconst 1) := cf189_438.2.2.2.2.2.2.2.2.2.2.2.2.2.1
theorem f189_460 : zf 189 460 = some (.iadd) := cf189_438.2.2.2.2.2.2.2.2.2.2.2.2.2.2.1
theorem f189_461 : zf 189 461 = some (.iaload) := cf189_438.2.2.2.2.2.2.2.2.2.2.2.2.2.2.2
theorem cf189_462 : zf 189 462 = some (.aload_n 0) ∧ zf 189 463 = some (.iload_n 3) ∧ zf 189 464 = some (.iconst 2) ∧ zf 189 465 = some (.iadd) ∧ zf 189 466 = some (.iaload) ∧ zf 189 467 = some (.invokevirtual 48) ∧ zf 189 470 = some (.pop) ∧ zf 189 471 = some (.aload_n 2) ∧ zf 189 472 = some (.aload_n 0) ∧ zf 189 473 = some (.iload_n 3) ∧ zf 189 474 = some (.iconst 1) ∧ zf 189 475 = some (.iadd) ∧ zf 189 476 = some (.iaload) ∧ zf 189 477 = some (.aload_n 0) ∧ zf 189 478 = some (.iload_n 3) ∧ zf 189 479 = some (.iconst 2) := by decide +kernel
theorem f189_462 : zf 189 462 = some (.aload_n 0) := cf189_462.1
theorem f189_463 : zf 189 463 = some (.iload_n 3) := cf189_462.2.1
theorem f189_464 : zf 189 464 = some (.iconst 2) := cf189_462.2.2.1
theorem f189_465 : zf 189 465 = some (.iadd) := cf189_462.2.2.2.1
theorem f189_466 : zf 189 466 = some (.iaload) := cf189_462.2.2.2.2.1
theorem f189_467 : zf 189 467 = some (.invokevirtual 48) := cf189_462.2.2.2.2.2.1
theorem f189_470 : zf 189 470 = some (.pop) := cf189_462.2.2.2.2.2.2.1
theorem f189_471 : zf 189 471 = some (.aload_n 2) := cf189_462.2.2.2.2.2.2.2.1
theorem f189_472 : zf 189 472 = some (.aload_n 0) := cf189_462.2.2.2.2.2.2.2.2.1
theorem f189_473 : zf 189 473 = some (.iload_n 3) := cf189_462.2.2.2.2.2.2.2.2.2.1
theorem f189_474 : zf 189 474 = some (.iconst 1) := cf189_462.2.2.2.2.2.2.2.2.2.2.1
theorem f189_475 : zf 189 475 = some (.iadd) := cf189_462.2.2.2.2.2.2.2.2.2.2.2.1
theorem f189_476 : zf 189 476 = some (.iaload) := cf189_462.2.2.2.2.2.2.2.2.2.2.2.2.1
theorem f189_477 : zf 189 477 = some (.aload_n 0) := cf189_462.2.2.2.2.2.2.2.2.2.2.2.2.2.1
theorem f189_478 : zf 189 478 = some (.iload_n 3) := cf189_462.2.2.2.2.2.2.2.2.2.2.2.2.2.2.1
theorem f189_479 : zf 189 479 = some (.iconst 2) := cf189_462.2.2.2.2.2.2.2.2.2.2.2.2.2.2.2
theorem cf189_480 : zf 189 480 = some (.iadd) ∧ zf 189 481 = some (.iaload) ∧ zf 189 482 = some (.invokevirtual 51) ∧ zf 189 485 = some (.pop) ∧ zf 189 486 = some (.goto 527) ∧ zf 189 489 = some (.aload_n 1) ∧ zf 189 490 = some (.aload_n 0) ∧ zf 189 491 = some (.iload_n 3) ∧ zf 189 492 = some (.iconst 1) ∧ zf 189 493 = some (.iadd) ∧ zf 189 494 = some (.iaload) ∧ zf 189 495 = some (.invokevirtual 52) ∧ zf 189 498 = some (.pop) ∧ zf 189 499 = some (.aload_n 2) ∧ zf 189 500 = some (.aload_n 0) ∧ zf 189 501 = some (.iload_n 3) := by decide +kernel
theorem f189_480 : zf 189 480 = some (.iadd) := cf189_480.1
theorem f189_481 : zf 189 481 = some (.iaload) := cf189_480.2.1
theorem f189_482 : zf 189 482 = some (.invokevirtual 51) := cf189_480.2.2.1
theorem f189_485 : zf 189 485 = some (.pop) := cf189_480.2.2.2.1
theorem f189_486 : zf 189 486 = some (.goto 527) := cf189_480.2.2.2.2.1
theorem f189_489 : zf 189 489 = some (.aload_n 1) := cf189_480.2.2.2.2.2.1
theorem f189_490 : zf 189 490 = some (.aload_n 0) := cf189_480.2.2.2.2.2.2.1
theorem f189_491 : zf 189 491 = some (.iload_n 3) := cf189_480.2.2.2.2.2.2.2.1
theorem f189_492 : zf 189 492 = some (.iconst 1) := cf189_480.2.2.2.2.2.2.2.2.1
theorem f189_493 : zf 189 493 = some (.iadd) := cf189_480.2.2.2.2.2.2.2.2.2.1
theorem f189_494 : zf 189 494 = some (.iaload) := cf189_480.2.2.2.2.2.2.2.2.2.2.1
theorem f189_495 : zf 189 495 = some (.invokevirtual 52) := cf189_480.2.2.2.2.2.2.2.2.2.2.2.1
theorem f189_498 : zf 189 498 = some (.pop) := cf189_480.2.2.2.2.2.2.2.2.2.2.2.2.1
theorem f189_499 : zf 189 499 = some (.aload_n 2) := cf189_480.2.2.2.2.2.2.2.2.2.2.2.2.2.1
theorem f189_500 : zf 189 500 = some (.aload_n 0) := cf189_480.2.2.2.2.2.2.2.2.2.2.2.2.2.2.1
theorem f189_501 : zf 189 501 = some (.iload_n 3) := cf189_480.2.2.2.2.2.2.2.2.2.2.2.2.2.2.2
theorem cf189_502 : zf 189 502 = some (.iconst 1) ∧ zf 189 503 = some (.iadd) ∧ zf 189 504 = some (.iaload) ∧ zf 189 505 = some (.invokevirtual 56) ∧ zf 189 508 = some (.pop) ∧ zf 189 509 = some (.goto 504) ∧ zf 189 512 = some (.aload_n 1) ∧ zf 189 513 = some (.aload_n 0) ∧ zf 189 514 = some (.iload_n 3) ∧ zf 189 515 = some (.iconst 1) ∧ zf 189 516 = some (.iadd) ∧ zf 189 517 = some (.iaload) ∧ zf 189 518 = some (.invokevirtual 57) ∧ zf 189 521 = some (.pop) ∧ zf 189 522 = some (.aload_n 2) ∧ zf 189 523 = some (.aload_n 0) := by decide +kernel
theorem f189_502 : zf 189 502 = some (.iconst 1) := cf189_502.1
theorem f189_503 : zf 189 503 = some (.iadd) := cf189_502.2.1
theorem f189_504 : zf 189 504 = some (.iaload) := cf189_502.2.2.1
theorem f189_505 : zf 189 505 = some (.invokevirtual 56) := cf189_502.2.2.2.1
theorem f189_508 : zf 189 508 = some (.pop) := cf189_502.2.2.2.2.1
theorem f189_509 : zf 189 509 = some (.goto 504) := cf189_502.2.2.2.2.2.1
theorem f189_512 : zf 189 512 = some (.aload_n 1) := cf189_502.2.2.2.2.2.2.1
theorem f189_513 : zf 189 513 = some (.aload_n 0) := cf189_502.2.2.2.2.2.2.2.1
theorem f189_514 : zf 189 514 = some (.iload_n 3) := cf189_502.2.2.2.2.2.2.2.2.1
theorem f189_515 : zf 189 515 = some (.iconst 1) := cf189_502.2.2.2.2.2.2.2.2.2.1
theorem f189_516 : zf 189 516 = some (.iadd) := cf189_502.2.2.2.2.2.2.2.2.2.2.1
theorem f189_517 : zf 189 517 = some (.iaload) := cf189_502.2.2.2.2.2.2.2.2.2.2.2.1
theorem f189_518 : zf 189 518 = some (.invokevirtual 57) := cf189_502.2.2.2.2.2.2.2.2.2.2.2.2.1
theorem f189_521 : zf 189 521 = some (.pop) := cf189_502.2.2.2.2.2.2.2.2.2.2.2.2.2.1
theorem f189_522 : zf 189 522 = some (.aload_n 2) := cf189_502.2.2.2.2.2.2.2.2.2.2.2.2.2.2.1
theorem f189_523 : zf 189 523 = some (.aload_n 0) := cf189_502.2.2.2.2.2.2.2.2.2.2.2.2.2.2.2
theorem cf189_524 : zf 189 524 = some (.iload_n 3) ∧ zf 189 525 = some (.iconst 1) ∧ zf 189 526 = some (.iadd) ∧ zf 189 527 = some (.iaload) ∧ zf 189 528 = some (.invokevirtual 60) ∧ zf 189 531 = some (.pop) ∧ zf 189 532 = some (.goto 481) ∧ zf 189 535 = some (.aload_n 1) ∧ zf 189 536 = some (.aload_n 0) ∧ zf 189 537 = some (.iload_n 3) ∧ zf 189 538 = some (.iconst 1) ∧ zf 189 539 = some (.iadd) ∧ zf 189 540 = some (.iaload) ∧ zf 189 541 = some (.invokevirtual 61) ∧ zf 189 544 = some (.pop2) ∧ zf 189 545 = some (.aload_n 2) := by decide +kernel
theorem f189_524 : zf 189 524 = some (.iload_n 3) := cf189_524.1
theorem f189_525 : zf 189 525 = some (.iconst 1) := cf189_524.2.1
theorem f189_526 : zf 189 526 = some (.iadd) := cf189_524.2.2.1
theorem f189_527 : zf 189 527 = some (.iaload) := cf189_524.2.2.2.1
theorem f189_528 : zf 189 528 = some (.invokevirtual 60) := cf189_524.2.2.2.2.1
theorem f189_531 : zf 189 531 = some (.pop) := cf189_524.2.2.2.2.2.1
theorem f189_532 : zf 189 532 = some (.goto 481) := cf189_524.2.2.2.2.2.2.1
theorem f189_535 : zf 189 535 = some (.aload_n 1) := cf189_524.2.2.2.2.2.2.2.1
theorem f189_536 : zf 189 536 = some (.aload_n 0) := cf189_524.2.2.2.2.2.2.2.2.1
theorem f189_537 : zf 189 537 = some (.iload_n 3) := cf189_524.2.2.2.2.2.2.2.2.2.1
theorem f189_538 : zf 189 538 = some (.iconst 1) := cf189_524.2.2.2.2.2.2.2.2.2.2.1
theorem f189_539 : zf 189 539 = some (.iadd) := cf189_524.2.2.2.2.2.2.2.2.2.2.2.1
theorem f189_540 : zf 189 540 = some (.iaload) := cf189_524.2.2.2.2.2.2.2.2.2.2.2.2.1
theorem f189_541 : zf 189 541 = some (.invokevirtual 61) := cf189_524.2.2.2.2.2.2.2.2.2.2.2.2.2.1
theorem f189_544 : zf 189 544 = some (.pop2) := cf189_524.2.2.2.2.2.2.2.2.2.2.2.2.2.2.1
theorem f189_545 : zf 189 545 = some (.aload_n 2) := cf189_524.2.2.2.2.2.2.2.2.2.2.2.2.2.2.2
theorem cf189_546 : zf 189 546 = some (.aload_n 0) ∧ zf 189 547 = some (.iload_n 3) ∧ zf 189 548 = some (.iconst 1) ∧ zf 189 549 = some (.iadd) ∧ zf 189 550 = some (.iaload) ∧ zf 189 551 = some (.invokevirtual 65) ∧ zf 189 554 = some (.pop2) ∧ zf 189 555 = some (.goto 458) ∧ zf 189 558 = some (.aload_n 1) ∧ zf 189 559 = some (.aload_n 0) ∧ zf 189 560 = some (.iload_n 3) ∧ zf 189 561 = some (.iconst 1) ∧ zf 189 562 = some (.iadd) ∧ zf 189 563 = some (.iaload) ∧ zf 189 564 = some (.aload_n 0) ∧ zf 189 565 = some (.iload_n 3) := by decide +kernel
theorem f189_546 : zf 189 546 = some (.aload_n 0) := cf189_546.1
theorem f189_547 : zf 189 547 = some (.iload_n 3) := cf189_546.2.1
theorem f189_548 : zf 189 548 = some (.iconst 1) := cf189_546.2.2.1
theorem f189_549 : zf 189 549 = some (.iadd) := cf189_546.2.2.2.1
theorem f189_550 : zf 189 550 = some (.iaload) := cf189_546.2.2.2.2.1
theorem f189_551 : zf 189 551 = some (.invokevirtual 65) := cf189_546.2.2.2.2.2.1
theorem f189_554 : zf 189 554 = some (.pop2) := cf189_546.2.2.2.2.2.2.1
theorem f189_555 : zf 189 555 = some (.goto 458) := cf189_546.2.2.2.2.2.2.2.1
theorem f189_558 : zf 189 558 = some (.aload_n 1) := cf189_546.2.2.2.2.2.2.2.2.1
theorem f189_559 : zf 189 559 = some (.aload_n 0) := cf189_546.2.2.2.2.2.2.2.2.2.1
theorem f189_560 : zf 189 560 = some (.iload_n 3) := cf189_546.2.2.2.2.2.2.2.2.2.2.1
theorem f189_561 : zf 189 561 = some (.iconst 1) := cf189_546.2.2.2.2.2.2.2.2.2.2.2.1
theorem f189_562 : zf 189 562 = some (.iadd) := cf189_546.2.2.2.2.2.2.2.2.2.2.2.2.1
theorem f189_563 : zf 189 563 = some (.iaload) := cf189_546.2.2.2.2.2.2.2.2.2.2.2.2.2.1
theorem f189_564 : zf 189 564 = some (.aload_n 0) := cf189_546.2.2.2.2.2.2.2.2.2.2.2.2.2.2.1
theorem f189_565 : zf 189 565 = some (.iload_n 3) := cf189_546.2.2.2.2.2.2.2.2.2.2.2.2.2.2.2
theorem cf189_566 : zf 189 566 = some (.iconst 2) ∧ zf 189 567 = some (.iadd) ∧ zf 189 568 = some (.iaload) ∧ zf 189 569 = some (.invokevirtual 66) ∧ zf 189 572 = some (.pop) ∧ zf 189 573 = some (.aload_n 2) ∧ zf 189 574 = some (.aload_n 0) ∧ zf 189 575 = some (.iload_n 3) ∧ zf 189 576 = some (.iconst 1) ∧ zf 189 577 = some (.iadd) ∧ zf 189 578 = some (.iaload) ∧ zf 189 579 = some (.aload_n 0) ∧ zf 189 580 = some (.iload_n 3) ∧ zf 189 581 = some (.iconst 2) ∧ zf 189 582 = some (.iadd) ∧ zf 189 583 = some (.iaload) := by decide +kernel
theorem f189_566 : zf 189 566 = some (.iconst 2) := cf189_566.1
theorem f189_567 : zf 189 567 = some (.iadd) := cf189_566.2.1
theorem f189_568 : zf 189 568 = some (.iaload) := cf189_566.2.2.1
theorem f189_569 : zf 189 569 = some (.invokevirtual 66) := cf189_566.2.2.2.1
theorem f189_572 : zf 189 572 = some (.pop) := cf189_566.2.2.2.2.1
theorem f189_573 : zf 189 573 = some (.aload_n 2) := cf189_566.2.2.2.2.2.1
theorem f189_574 : zf 189 574 = some (.aload_n 0) := cf189_566.2.2.2.2.2.2.1
theorem f189_575 : zf 189 575 = some (.iload_n 3) := cf189_566.2.2.2.2.2.2.2.1
theorem f189_576 : zf 189 576 = some (.iconst 1) := cf189_566.2.2.2.2.2.2.2.2.1
theorem f189_577 : zf 189 577 = some (.iadd) := cf189_566.2.2.2.2.2.2.2.2.2.1
theorem f189_578 : zf 189 578 = some (.iaload) := cf189_566.2.2.2.2.2.2.2.2.2.2.1
theorem f189_579 : zf 189 579 = some (.aload_n 0) := cf189_566.2.2.2.2.2.2.2.2.2.2.2.1
theorem f189_580 : zf 189 580 = some (.iload_n 3) := cf189_566.2.2.2.2.2.2.2.2.2.2.2.2.1
theorem f189_581 : zf 189 581 = some (.iconst 2) := cf189_566.2.2.2.2.2.2.2.2.2.2.2.2.2.1
theorem f189_582 : zf 189 582 = some (.iadd) := cf189_566.2.2.2.2.2.2.2.2.2.2.2.2.2.2.1
theorem f189_583 : zf 189 583 = some (.iaload) := cf189_566.2.2.2.2.2.2.2.2.2.2.2.2.2.2.2
theorem cf189_584 : zf 189 584 = some (.invokevirtual 69) ∧ zf 189 587 = some (.pop) ∧ zf 189 588 = some (.goto 425) ∧ zf 189 591 = some (.aload_n 1) ∧ zf 189 592 = some (.aload_n 0) ∧ zf 189 593 = some (.iload_n 3) ∧ zf 189 594 = some (.iconst 1) ∧ zf 189 595 = some (.iadd) ∧ zf 189 596 = some (.iaload) ∧ zf 189 597 = some (.invokevirtual 70) ∧ zf 189 600 = some (.pop) ∧ zf 189 601 = some (.aload_n 2) ∧ zf 189 602 = some (.aload_n 0) ∧ zf 189 603 = some (.iload_n 3) ∧ zf 189 604 = some (.iconst 1) ∧ zf 189 605 = some (.iadd) := by decide +kernel
theorem f189_584 : zf 189 584 = some (.invokevirtual 69) := cf189_584.1
theorem f189_587 : zf 189 587 = some (.pop) := cf189_584.2.1
theorem f189_588 : zf 189 588 = some (.goto 425) := cf189_584.2.2.1
theorem f189_591 : zf 189 591 = some (.aload_n 1) := cf189_584.2.2.2.1
theorem f189_592 : zf 189 592 = some (.aload_n 0) := cf189_584.2.2.2.2.1
theorem f189_593 : zf 189 593 = some (.iload_n 3) := cf189_584.2.2.2.2.2.1
theorem f189_594 : zf 189 594 = some (.iconst 1) := cf189_584.2.2.2.2.2.2.1
theorem f189_595 : zf 189 595 = some (.iadd) := cf189_584.2.2.2.2.2.2.2.1
theorem f189_596 : zf 189 596 = some (.iaload) := cf189_584.2.2.2.2.2.2.2.2.1
theorem f189_597 : zf 189 597 = some (.invokevirtual 70) := cf189_584.2.2.2.2.2.2.2.2.2.1
theorem f189_600 : zf 189 600 = some (.pop) := cf189_584.2.2.2.2.2.2.2.2.2.2.1
theorem f189_601 : zf 189 601 = some (.aload_n 2) := cf189_584.2.2.2.2.2.2.2.2.2.2.2.1
theorem f189_602 : zf 189 602 = some (.aload_n 0) := cf189_584.2.2.2.2.2.2.2.2.2.2.2.2.1
theorem f189_603 : zf 189 603 = some (.iload_n 3) := cf189_584.2.2.2.2.2.2.2.2.2.2.2.2.2.1
theorem f189_604 : zf 189 604 = some (.iconst 1) := cf189_584.2.2.2.2.2.2.2.2.2.2.2.2.2.2.1
theorem f189_605 : zf 189 605 = some (.iadd) := cf189_584.2.2.2.2.2.2.2.2.2.2.2.2.2.2.2
theorem cf189_606 : zf 189 606 = some (.iaload) ∧ zf 189 607 = some (.invokevirtual 73) ∧ zf 189 610 = some (.pop) ∧ zf 189 611 = some (.goto 402) ∧ zf 189 614 = some (.aload_n 1) ∧ zf 189 615 = some (.aload_n 0) ∧ zf 189 616 = some (.iload_n 3) ∧ zf 189 617 = some (.iconst 1) ∧ zf 189 618 = some (.iadd) ∧ zf 189 619 = some (.iaload) ∧ zf 189 620 = some (.invokevirtual 74) ∧ zf 189 623 = some (.pop) ∧ zf 189 624 = some (.aload_n 2) ∧ zf 189 625 = some (.aload_n 0) ∧ zf 189 626 = some (.iload_n 3) ∧ zf 189 627 = some (.iconst 1) := by decide +kernel
theorem f189_606 : zf 189 606 = some (.iaload) := cf189_606.1
theorem f189_607 : zf 189 607 = some (.invokevirtual 73) := cf189_606.2.1
theorem f189_610 : zf 189 610 = some (.pop) := cf189_606.2.2.1
theorem f189_611 : zf 189 611 = some (.goto 402) := cf189_606.2.2.2.1
theorem f189_614 : zf 189 614 = some (.aload_n 1) := cf189_606.2.2.2.2.1
theorem f189_615 : zf 189 615 = some (.aload_n 0) := cf189_606.2.2.2.2.2.1
theorem f189_616 : zf 189 616 = some (.iload_n 3) := cf189_606.2.2.2.2.2.2.1
theorem f189_617 : zf 189 617 = some (.iconst 1) := cf189_606.2.2.2.2.2.2.2.1
theorem f189_618 : zf 189 618 = some (.iadd) := cf189_606.2.2.2.2.2.2.2.2.1
theorem f189_619 : zf 189 619 = some (.iaload) := cf189_606.2.2.2.2.2.2.2.2.2.1
theorem f189_620 : zf 189 620 = some (.invokevirtual 74) := cf189_606.2.2.2.2.2.2.2.2.2.2.1
theorem f189_623 : zf 189 623 = some (.pop) := cf189_606.2.2.2.2.2.2.2.2.2.2.2.1
theorem f189_624 : zf 189 624 = some (.aload_n 2) := cf189_606.2.2.2.2.2.2.2.2.2.2.2.2.1
theorem f189_625 : zf 189 625 = some (.aload_n 0) := cf189_606.2.2.2.2.2.2.2.2.2.2.2.2.2.1
theorem f189_626 : zf 189 626 = some (.iload_n 3) := cf189_606.2.2.2.2.2.2.2.2.2.2.2.2.2.2.1
theorem f189_627 : zf 189 627 = some (.iconst 1) := cf189_606.2.2.2.2.2.2.2.2.2.2.2.2.2.2.2
theorem cf189_628 : zf 189 628 = some (.iadd) ∧ zf 189 629 = some (.iaload) ∧ zf 189 630 = some (.invokevirtual 77) ∧ zf 189 633 = some (.pop) ∧ zf 189 634 = some (.goto 379) ∧ zf 189 637 = some (.aload_n 1) ∧ zf 189 638 = some (.aload_n 0) ∧ zf 189 639 = some (.iload_n 3) ∧ zf 189 640 = some (.iconst 1) ∧ zf 189 641 = some (.iadd) ∧ zf 189 642 = some (.iaload) ∧ zf 189 643 = some (.invokevirtual 78) ∧ zf 189 646 = some (.pop) ∧ zf 189 647 = some (.aload_n 2) ∧ zf 189 648 = some (.aload_n 0) ∧ zf 189 649 = some (.iload_n 3) := by decide +kernel
theorem f189_628 : zf 189 628 = some (.iadd) := cf189_628.1
theorem f189_629 : zf 189 629 = some (.iaload) := cf189_628.2.1
theorem f189_630 : zf 189 630 = some (.invokevirtual 77) := cf189_628.2.2.1
theorem f189_633 : zf 189 633 = some (.pop) := cf189_628.2.2.2.1
theorem f189_634 : zf 189 634 = some (.goto 379) := cf189_628.2.2.2.2.1
theorem f189_637 : zf 189 637 = some (.aload_n 1) := cf189_628.2.2.2.2.2.1
theorem f189_638 : zf 189 638 = some (.aload_n 0) := cf189_628.2.2.2.2.2.2.1
theorem f189_639 : zf 189 639 = some (.iload_n 3) := cf189_628.2.2.2.2.2.2.2.1
theorem f189_640 : zf 189 640 = some (.iconst 1) := cf189_628.2.2.2.2.2.2.2.2.1
theorem f189_641 : zf 189 641 = some (.iadd) := cf189_628.2.2.2.2.2.2.2.2.2.1
theorem f189_642 : zf 189 642 = some (.iaload) := cf189_628.2.2.2.2.2.2.2.2.2.2.1
theorem f189_643 : zf 189 643 = some (.invokevirtual 78) := cf189_628.2.2.2.2.2.2.2.2.2.2.2.1
theorem f189_646 : zf 189 646 = some (.pop) := cf189_628.2.2.2.2.2.2.2.2.2.2.2.2.1
theorem f189_647 : zf 189 647 = some (.aload_n 2) := cf189_628.2.2.2.2.2.2.2.2.2.2.2.2.2.1
theorem f189_648 : zf 189 648 = some (.aload_n 0) := cf189_628.2.2.2.2.2.2.2.2.2.2.2.2.2.2.1
theorem f189_649 : zf 189 649 = some (.iload_n 3) := cf189_628.2.2.2.2.2.2.2.2.2.2.2.2.2.2.2
theorem cf189_650 : zf 189 650 = some (.iconst 1) ∧ zf 189 651 = some (.iadd) ∧ zf 189 652 = some (.iaload) ∧ zf 189 653 = some (.invokevirtual 81) ∧ zf 189 656 = some (.pop) ∧ zf 189 657 = some (.goto 356) ∧ zf 189 660 = some (.aload_n 1) ∧ zf 189 661 = some (.aload_n 0) ∧ zf 189 662 = some (.iload_n 3) ∧ zf 189 663 = some (.iconst 1) ∧ zf 189 664 = some (.iadd) ∧ zf 189 665 = some (.iaload) ∧ zf 189 666 = some (.aload_n 0) ∧ zf 189 667 = some (.iload_n 3) ∧ zf 189 668 = some (.iconst 2) ∧ zf 189 669 = some (.iadd) := by decide +kernel
theorem f189_650 : zf 189 650 = some (.iconst 1) := cf189_650.1
theorem f189_651 : zf 189 651 = some (.iadd) := cf189_650.2.1
theorem f189_652 : zf 189 652 = some (.iaload) := cf189_650.2.2.1
theorem f189_653 : zf 189 653 = some (.invokevirtual 81) := cf189_650.2.2.2.1
theorem f189_656 : zf 189 656 = some (.pop) := cf189_650.2.2.2.2.1
theorem f189_657 : zf 189 657 = some (.goto 356) := cf189_650.2.2.2.2.2.1
theorem f189_660 : zf 189 660 = some (.aload_n 1) := cf189_650.2.2.2.2.2.2.1
theorem f189_661 : zf 189 661 = some (.aload_n 0) := cf189_650.2.2.2.2.2.2.2.1
theorem f189_662 : zf 189 662 = some (.iload_n 3) := cf189_650.2.2.2.2.2.2.2.2.1
theorem f189_663 : zf 189 663 = some (.iconst 1) := cf189_650.2.2.2.2.2.2.2.2.2.1
theorem f189_664 : zf 189 664 = some (.iadd) := cf189_650.2.2.2.2.2.2.2.2.2.2.1
theorem f189_665 : zf 189 665 = some (.iaload) := cf189_650.2.2.2.2.2.2.2.2.2.2.2.1
theorem f189_666 : zf 189 666 = some (.aload_n 0) := cf189_650.2.2.2.2.2.2.2.2.2.2.2.2.1
theorem f189_667 : zf 189 667 = some (.iload_n 3) := cf189_650.2.2.2.2.2.2.2.2.2.2.2.2.2.1
theorem f189_668 : zf 189 668 = some (.iconst 2) := cf189_650.2.2.2.2.2.2.2.2.2.2.2.2.2.2.1
theorem f189_669 : zf 189 669 = some (.iadd) := cf189_650.2.2.2.2.2.2.2.2.2.2.2.2.2.2.2
theorem cf189_670 : zf 189 670 = some (.iaload) ∧ zf 189 671 = some (.invokevirtual 82) ∧ zf 189 674 = some (.pop) ∧ zf 189 675 = some (.aload_n 2) ∧ zf 189 676 = some (.aload_n 0) ∧ zf 189 677 = some (.iload_n 3) ∧ zf 189 678 = some (.iconst 1) ∧ zf 189 679 = some (.iadd) ∧ zf 189 680 = some (.iaload) ∧ zf 189 681 = some (.aload_n 0) ∧ zf 189 682 = some (.iload_n 3) ∧ zf 189 683 = some (.iconst 2) ∧ zf 189 684 = some (.iadd) ∧ zf 189 685 = some (.iaload) ∧ zf 189 686 = some (.invokevirtual 85) ∧ zf 189 689 = some (.pop) := by decide +kernel
theorem f189_670 : zf 189 670 = some (.iaload) := cf189_670.1
theorem f189_671 : zf 189 671 = some (.invokevirtual 82) := cf189_670.2.1
theorem f189_674 : zf 189 674 = some (.pop) := cf189_670.2.2.1
theorem f189_675 : zf 189 675 = some (.aload_n 2) := cf189_670.2.2.2.1
theorem f189_676 : zf 189 676 = some (.aload_n 0) := cf189_670.2.2.2.2.1
theorem f189_677 : zf 189 677 = some (.iload_n 3) := cf189_670.2.2.2.2.2.1
theorem f189_678 : zf 189 678 = some (.iconst 1) := cf189_670.2.2.2.2.2.2.1
theorem f189_679 : zf 189 679 = some (.iadd) := cf189_670.2.2.2.2.2.2.2.1
theorem f189_680 : zf 189 680 = some (.iaload) := cf189_670.2.2.2.2.2.2.2.2.1
theorem f189_681 : zf 189 681 = some (.aload_n 0) := cf189_670.2.2.2.2.2.2.2.2.2.1
theorem f189_682 : zf 189 682 = some (.iload_n 3) := cf189_670.2.2.2.2.2.2.2.2.2.2.1
theorem f189_683 : zf 189 683 = some (.iconst 2) := cf189_670.2.2.2.2.2.2.2.2.2.2.2.1
theorem f189_684 : zf 189 684 = some (.iadd) := cf189_670.2.2.2.2.2.2.2.2.2.2.2.2.1
theorem f189_685 : zf 189 685 = some (.iaload) := cf189_670.2.2.2.2.2.2.2.2.2.2.2.2.2.1
theorem f189_686 : zf 189 686 = some (.invokevirtual 85) := cf189_670.2.2.2.2.2.2.2.2.2.2.2.2.2.2.1
theorem f189_689 : zf 189 689 = some (.pop) := cf189_670.2.2.2.2.2.2.2.2.2.2.2.2.2.2.2
theorem cf189_690 : zf 189 690 = some (.goto 323) ∧ zf 189 693 = some (.aload_n 1) ∧ zf 189 694 = some (.aload_n 0) ∧ zf 189 695 = some (.iload_n 3) ∧ zf 189 696 = some (.iconst 1) ∧ zf 189 697 = some (.iadd) ∧ zf 189 698 = some (.iaload) ∧ zf 189 699 = some (.aload_n 0) ∧ zf 189 700 = some (.iload_n 3) ∧ zf 189 701 = some (.iconst 2) ∧ zf 189 702 = some (.iadd) ∧ zf 189 703 = some (.iaload) ∧ zf 189 704 = some (.invokevirtual 86) ∧ zf 189 707 = some (.pop) ∧ zf 189 708 = some (.aload_n 2) ∧ zf 189 709 = some (.aload_n 0) := by decide +kernel
theorem f189_690 : zf 189 690 = some (.goto 323) := cf189_690.1
theorem f189_693 : zf 189 693 = some (.aload_n 1) := cf189_690.2.1
theorem f189_694 : zf 189 694 = some (.aload_n 0) := cf189_690.2.2.1
theorem f189_695 : zf 189 695 = some (.iload_n 3) := cf189_690.2.2.2.1
theorem f189_696 : zf 189 696 = some (.iconst 1) := cf189_690.2.2.2.2.1
theorem f189_697 : zf 189 697 = some (.iadd) := cf189_690.2.2.2.2.2.1
theorem f189_698 : zf 189 698 = some (.iaload) := cf189_690.2.2.2.2.2.2.1
theorem f189_699 : zf 189 699 = some (.aload_n 0) := cf189_690.2.2.2.2.2.2.2.1
theorem f189_700 : zf 189 700 = some (.iload_n 3) := cf189_690.2.2.2.2.2.2.2.2.1
theorem f189_701 : zf 189 701 = some (.iconst 2) := cf189_690.2.2.2.2.2.2.2.2.2.1
theorem f189_702 : zf 189 702 = some (.iadd) := cf189_690.2.2.2.2.2.2.2.2.2.2.1
theorem f189_703 : zf 189 703 = some (.iaload) := cf189_690.2.2.2.2.2.2.2.2.2.2.2.1
theorem f189_704 : zf 189 704 = some (.invokevirtual 86) := cf189_690.2.2.2.2.2.2.2.2.2.2.2.2.1
theorem f189_707 : zf 189 707 = some (.pop) := cf189_690.2.2.2.2.2.2.2.2.2.2.2.2.2.1
theorem f189_708 : zf 189 708 = some (.aload_n 2) := cf189_690.2.2.2.2.2.2.2.2.2.2.2.2.2.2.1
theorem f189_709 : zf 189 709 = some (.aload_n 0) := cf189_690.2.2.2.2.2.2.2.2.2.2.2.2.2.2.2
theorem cf189_710 : zf 189 710 = some (.iload_n 3) ∧ zf 189 711 = some (.iconst 1) ∧ zf 189 712 = some (.iadd) ∧ zf 189 713 = some (.iaload) ∧ zf 189 714 = some (.aload_n 0) ∧ zf 189 715 = some (.iload_n 3) ∧ zf 189 716 = some (.iconst 2) ∧ zf 189 717 = some (.iadd) ∧ zf 189 718 = some (.iaload) ∧ zf 189 719 = some (.invokevirtual 89) ∧ zf 189 722 = some (.pop) ∧ zf 189 723 = some (.goto 290) ∧ zf 189 726 = some (.aload_n 1) ∧ zf 189 727 = some (.aload_n 0) ∧ zf 189 728 = some (.iload_n 3) ∧ zf 189 729 = some (.iconst 1) := by decide +kernel
theorem f189_710 : zf 189 710 = some (.iload_n 3) := cf189_710.1
theorem f189_711 : zf 189 711 = some (.iconst 1) := cf189_710.2.1
theorem f189_712 : zf 189 712 = some (.iadd) := cf189_710.2.2.1
theorem f189_713 : zf 189 713 = some (.iaload) := cf189_710.2.2.2.1
theorem f189_714 : zf 189 714 = some (.aload_n 0) := cf189_710.2.2.2.2.1
theorem f189_715 : zf 189 715 = some (.iload_n 3) := cf189_710.2.2.2.2.2.1
theorem f189_716 : zf 189 716 = some (.iconst 2) := cf189_710.2.2.2.2.2.2.1
theorem f189_717 : zf 189 717 = some (.iadd) := cf189_710.2.2.2.2.2.2.2.1
theorem f189_718 : zf 189 718 = some (.iaload) := cf189_710.2.2.2.2.2.2.2.2.1
theorem f189_719 : zf 189 719 = some (.invokevirtual 89) := cf189_710.2.2.2.2.2.2.2.2.2.1
theorem f189_722 : zf 189 722 = some (.pop) := cf189_710.2.2.2.2.2.2.2.2.2.2.1
theorem f189_723 : zf 189 723 = some (.goto 290) := cf189_710.2.2.2.2.2.2.2.2.2.2.2.1
theorem f189_726 : zf 189 726 = some (.aload_n 1) := cf189_710.2.2.2.2.2.2.2.2.2.2.2.2.1
theorem f189_727 : zf 189 727 = some (.aload_n 0) := cf189_710.2.2.2.2.2.2.2.2.2.2.2.2.2.1
theorem f189_728 : zf 189 728 = some (.iload_n 3) := cf189_710.2.2.2.2.2.2.2.2.2.2.2.2.2.2.1
theorem f189_729 : zf 189 729 = some (.iconst 1) := cf189_710.2.2.2.2.2.2.2.2.2.2.2.2.2.2.2
theorem cf189_730 : zf 189 730 = some (.iadd) ∧ zf 189 731 = some (.iaload) ∧ zf 189 732 = some (.invokevirtual 90) ∧ zf 189 735 = some (.pop) ∧ zf 189 736 = some (.aload_n 2) ∧ zf 189 737 = some (.aload_n 0) ∧ zf 189 738 = some (.iload_n 3) ∧ zf 189 739 = some (.iconst 1) ∧ zf 189 740 = some (.iadd) ∧ zf 189 741 = some (.iaload) ∧ zf 189 742 = some (.invokevirtual 93) ∧ zf 189 745 = some (.pop) ∧ zf 189 746 = some (.goto 267) ∧ zf 189 749 = some (.aload_n 1) ∧ zf 189 750 = some (.aload_n 0) ∧ zf 189 751 = some (.iload_n 3) := by decide +kernel
theorem f189_730 : zf 189 730 = some (.iadd) := cf189_730.1
theorem f189_731 : zf 189 731 = some (.iaload) := cf189_730.2.1
theorem f189_732 : zf 189 732 = some (.invokevirtual 90) := cf189_730.2.2.1
theorem f189_735 : zf 189 735 = some (.pop) := cf189_730.2.2.2.1
theorem f189_736 : zf 189 736 = some (.aload_n 2) := cf189_730.2.2.2.2.1
theorem f189_737 : zf 189 737 = some (.aload_n 0) := cf189_730.2.2.2.2.2.1
theorem f189_738 : zf 189 738 = some (.iload_n 3) := cf189_730.2.2.2.2.2.2.1
theorem f189_739 : zf 189 739 = some (.iconst 1) := cf189_730.2.2.2.2.2.2.2.1
theorem f189_740 : zf 189 740 = some (.iadd) := cf189_730.2.2.2.2.2.2.2.2.1
theorem f189_741 : zf 189 741 = some (.iaload) := cf189_730.2.2.2.2.2.2.2.2.2.1
theorem f189_742 : zf 189 742 = some (.invokevirtual 93) := cf189_730.2.2.2.2.2.2.2.2.2.2.1
theorem f189_745 : zf 189 745 = some (.pop) := cf189_730.2.2.2.2.2.2.2.2.2.2.2.1
theorem f189_746 : zf 189 746 = some (.goto 267) := cf189_730.2.2.2.2.2.2.2.2.2.2.2.2.1
theorem f189_749 : zf 189 749 = some (.aload_n 1) := cf189_730.2.2.2.2.2.2.2.2.2.2.2.2.2.1
theorem f189_750 : zf 189 750 = some (.aload_n 0) := cf189_730.2.2.2.2.2.2.2.2.2.2.2.2.2.2.1
theorem f189_751 : zf 189 751 = some (.iload_n 3) := cf189_730.2.2.2.2.2.2.2.2.2.2.2.2.2.2.2
theorem cf189_752 : zf 189 752 = some (.iconst 1) ∧ zf 189 753 = some (.iadd) ∧ zf 189 754 = some (.iaload) ∧ zf 189 755 = some (.aload_n 0) ∧ zf 189 756 = some (.iload_n 3) ∧ zf 189 757 = some (.iconst 2) ∧ zf 189 758 = some (.iadd) ∧ zf 189 759 = some (.iaload) ∧ zf 189 760 = some (.invokevirtual 94) ∧ zf 189 763 = some (.pop) ∧ zf 189 764 = some (.aload_n 2) ∧ zf 189 765 = some (.aload_n 0) ∧ zf 189 766 = some (.iload_n 3) ∧ zf 189 767 = some (.iconst 1) ∧ zf 189 768 = some (.iadd) ∧ zf 189 769 = some (.iaload) := by decide +kernel
theorem f189_752 : zf 189 752 = some (.iconst 1) := cf189_752.1
theorem f189_753 : zf 189 753 = some (.iadd) := cf189_752.2.1
theorem f189_754 : zf 189 754 = some (.iaload) := cf189_752.2.2.1
theorem f189_755 : zf 189 755 = some (.aload_n 0) := cf189_752.2.2.2.1
theorem f189_756 : zf 189 756 = some (.iload_n 3) := cf189_752.2.2.2.2.1
theorem f189_757 : zf 189 757 = some (.iconst 2) := cf189_752.2.2.2.2.2.1
theorem f189_758 : zf 189 758 = some (.iadd) := cf189_752.2.2.2.2.2.2.1
theorem f189_759 : zf 189 759 = some (.iaload) := cf189_752.2.2.2.2.2.2.2.1
theorem f189_760 : zf 189 760 = some (.invokevirtual 94) := cf189_752.2.2.2.2.2.2.2.2.1
theorem f189_763 : zf 189 763 = some (.pop) := cf189_752.2.2.2.2.2.2.2.2.2.1
theorem f189_764 : zf 189 764 = some (.aload_n 2) := cf189_752.2.2.2.2.2.2.2.2.2.2.1
theorem f189_765 : zf 189 765 = some (.aload_n 0) := cf189_752.2.2.2.2.2.2.2.2.2.2.2.1
theorem f189_766 : zf 189 766 = some (.iload_n 3) := cf189_752.2.2.2.2.2.2.2.2.2.2.2.2.1
theorem f189_767 : zf 189 767 = some (.iconst 1) := cf189_752.2.2.2.2.2.2.2.2.2.2.2.2.2.1
theorem f189_768 : zf 189 768 = some (.iadd) := cf189_752.2.2.2.2.2.2.2.2.2.2.2.2.2.2.1
theorem f189_769 : zf 189 769 = some (.iaload) := cf189_752.2.2.2.2.2.2.2.2.2.2.2.2.2.2.2
theorem cf189_770 : zf 189 770 = some (.aload_n 0) ∧ zf 189 771 = some (.iload_n 3) ∧ zf 189 772 = some (.iconst 2) ∧ zf 189 773 = some (.iadd) ∧ zf 189 774 = some (.iaload) ∧ zf 189 775 = some (.invokevirtual 97) ∧ zf 189 778 = some (.pop) ∧ zf 189 779 = some (.goto 234) ∧ zf 189 782 = some (.aload_n 1) ∧ zf 189 783 = some (.aload_n 0) ∧ zf 189 784 = some (.iload_n 3) ∧ zf 189 785 = some (.iconst 1) ∧ zf 189 786 = some (.iadd) ∧ zf 189 787 = some (.iaload) ∧ zf 189 788 = some (.invokevirtual 98) ∧ zf 189 791 = some (.pop2) := by decide +kernel
theorem f189_770 : zf 189 770 = some (.aload_n 0) := cf189_770.1
theorem f189_771 : zf 189 771 = some (.iload_n 3) := cf189_770.2.1
theorem f189_772 : zf 189 772 = some (.iconst 2) := cf189_770.2.2.1
theorem f189_773 : zf 189 773 = some (.iadd) := cf189_770.2.2.2.1
theorem f189_774 : zf 189 774 = some (.iaload) := cf189_770.2.2.2.2.1
theorem f189_775 : zf 189 775 = some (.invokevirtual 97) := cf189_770.2.2.2.2.2.1
theorem f189_778 : zf 189 778 = some (.pop) := cf189_770.2.2.2.2.2.2.1
theorem f189_779 : zf 189 779 = some (.goto 234) := cf189_770.2.2.2.2.2.2.2.1
theorem f189_782 : zf 189 782 = some (.aload_n 1) := cf189_770.2.2.2.2.2.2.2.2.1
theorem f189_783 : zf 189 783 = some (.aload_n 0) := cf189_770.2.2.2.2.2.2.2.2.2.1
theorem f189_784 : zf 189 784 = some (.iload_n 3) := cf189_770.2.2.2.2.2.2.2.2.2.2.1
theorem f189_785 : zf 189 785 = some (.iconst 1) := cf189_770.2.2.2.2.2.2.2.2.2.2.2.1
theorem f189_786 : zf 189 786 = some (.iadd) := cf189_770.2.2.2.2.2.2.2.2.2.2.2.2.1
theorem f189_787 : zf 189 787 = some (.iaload) := cf189_770.2.2.2.2.2.2.2.2.2.2.2.2.2.1
theorem f189_788 : zf 189 788 = some (.invokevirtual 98) := cf189_770.2.2.2.2.2.2.2.2.2.2.2.2.2.2.1
theorem f189_791 : zf 189 791 = some (.pop2) := cf189_770.2.2.2.2.2.2.2.2.2.2.2.2.2.2.2
theorem cf189_792 : zf 189 792 = some (.aload_n 2) ∧ zf 189 793 = some (.aload_n 0) ∧ zf 189 794 = some (.iload_n 3) ∧ zf 189 795 = some (.iconst 1) ∧ zf 189 796 = some (.iadd) ∧ zf 189 797 = some (.iaload) ∧ zf 189 798 = some (.invokevirtual 101) ∧ zf 189 801 = some (.pop2) ∧ zf 189 802 = some (.goto 211) ∧ zf 189 805 = some (.aload_n 1) ∧ zf 189 806 = some (.aload_n 0) ∧ zf 189 807 = some (.iload_n 3) ∧ zf 189 808 = some (.iconst 1) ∧ zf 189 809 = some (.iadd) ∧ zf 189 810 = some (.iaload) ∧ zf 189 811 = some (.invokevirtual 102) := by decide +kernel
theorem f189_792 : zf 189 792 = some (.aload_n 2) := cf189_792.1
theorem f189_793 : zf 189 793 = some (.aload_n 0) := cf189_792.2.1
theorem f189_794 : zf 189 794 = some (.iload_n 3) := cf189_792.2.2.1
theorem f189_795 : zf 189 795 = some (.iconst 1) := cf189_792.2.2.2.1
theorem f189_796 : zf 189 796 = some (.iadd) := cf189_792.2.2.2.2.1
theorem f189_797 : zf 189 797 = some (.iaload) := cf189_792.2.2.2.2.2.1
theorem f189_798 : zf 189 798 = some (.invokevirtual 101) := cf189_792.2.2.2.2.2.2.1
theorem f189_801 : zf 189 801 = some (.pop2) := cf189_792.2.2.2.2.2.2.2.1
theorem f189_802 : zf 189 802 = some (.goto 211) := cf189_792.2.2.2.2.2.2.2.2.1
theorem f189_805 : zf 189 805 = some (.aload_n 1) := cf189_792.2.2.2.2.2.2.2.2.2.1
theorem f189_806 : zf 189 806 = some (.aload_n 0) := cf189_792.2.2.2.2.2.2.2.2.2.2.1
theorem f189_807 : zf 189 807 = some (.iload_n 3) := cf189_792.2.2.2.2.2.2.2.2.2.2.2.1
theorem f189_808 : zf 189 808 = some (.iconst 1) := cf189_792.2.2.2.2.2.2.2.2.2.2.2.2.1
theorem f189_809 : zf 189 809 = some (.iadd) := cf189_792.2.2.2.2.2.2.2.2.2.2.2.2.2.1
theorem f189_810 : zf 189 810 = some (.iaload) := cf189_792.2.2.2.2.2.2.2.2.2.2.2.2.2.2.1
theorem f189_811 : zf 189 811 = some (.invokevirtual 102) := cf189_792.2.2.2.2.2.2.2.2.2.2.2.2.2.2.2
theorem cf189_814 : zf 189 814 = some (.pop) ∧ zf 189 815 = some (.aload_n 2) ∧ zf 189 816 = some (.aload_n 0) ∧ zf 189 817 = some (.iload_n 3) ∧ zf 189 818 = some (.iconst 1) ∧ zf 189 819 = some (.iadd) ∧ zf 189 820 = some (.iaload) ∧ zf 189 821 = some (.invokevirtual 105) ∧ zf 189 824 = some (.pop) ∧ zf 189 825 = some (.goto 188) ∧ zf 189 828 = some (.aload_n 1) ∧ zf 189 829 = some (.aload_n 0) ∧ zf 189 830 = some (.iload_n 3) ∧ zf 189 831 = some (.iconst 1) ∧ zf 189 832 = some (.iadd) ∧ zf 189 833 = some (.iaload) := by decide +kernel
theorem f189_814 : zf 189 814 = some (.pop) := cf189_814.1
theorem f189_815 : zf 189 815 = some (.aload_n 2) := cf189_814.2.1
theorem f189_816 : zf 189 816 = some (.aload_n 0) := cf189_814.2.2.1
theorem f189_817 : zf 189 817 = some (.iload_n 3) := cf189_814.2.2.2.1
theorem f189_818 : zf 189 818 = some (.iconst 1) := cf189_814.2.2.2.2.1
theorem f189_819 : zf 189 819 = some (.iadd) := cf189_814.2.2.2.2.2.1
theorem f189_820 : zf 189 820 = some (.iaload) := cf189_814.2.2.2.2.2.2.1
theorem f189_821 : zf 189 821 = some (.invokevirtual 105) := cf189_814.2.2.2.2.2.2.2.1
theorem f189_824 : zf 189 824 = some (.pop) := cf189_814.2.2.2.2.2.2.2.2.1
theorem f189_825 : zf 189 825 = some (.goto 188) := cf189_814.2.2.2.2.2.2.2.2.2.1
theorem f189_828 : zf 189 828 = some (.aload_n 1) := cf189_814.2.2.2.2.2.2.2.2.2.2.1
theorem f189_829 : zf 189 829 = some (.aload_n 0) := cf189_814.2.2.2.2.2.2.2.2.2.2.2.1
theorem f189_830 : zf 189 830 = some (.iload_n 3) := cf189_814.2.2.2.2.2.2.2.2.2.2.2.2.1
theorem f189_831 : zf 189 831 = some (.iconst 1) := cf189_814.2.2.2.2.2.2.2.2.2.2.2.2.2.1
theorem f189_832 : zf 189 832 = some (.iadd) := cf189_814.2.2.2.2.2.2.2.2.2.2.2.2.2.2.1
theorem f189_833 : zf 189 833 = some (.iaload) := cf189_814.2.2.2.2.2.2.2.2.2.2.2.2.2.2.2
theorem cf189_834 : zf 189 834 = some (.aload_n 0) ∧ zf 189 835 = some (.iload_n 3) ∧ zf 189 836 = some (.iconst 2) ∧ zf 189 837 = some (.iadd) ∧ zf 189 838 = some (.iaload) ∧ zf 189 839 = some (.aload_n 0) ∧ zf 189 840 = some (.iload_n 3) ∧ zf 189 841 = some (.iconst 3) ∧ zf 189 842 = some (.iadd) ∧ zf 189 843 = some (.iaload) ∧ zf 189 844 = some (.aload_n 0) ∧ zf 189 845 = some (.iload_n 3) ∧ zf 189 846 = some (.iconst 4) ∧ zf 189 847 = some (.iadd) ∧ zf 189 848 = some (.iaload) ∧ zf 189 849 = some (.aload_n 0) := by decide +kernel
theorem f189_834 : zf 189 834 = some (.aload_n 0) := cf189_834.1
theorem f189_835 : zf 189 835 = some (.iload_n 3) := cf189_834.2.1
theorem f189_836 : zf 189 836 = some (.iconst 2) := cf189_834.2.2.1
theorem f189_837 : zf 189 837 = some (.iadd) := cf189_834.2.2.2.1
theorem f189_838 : zf 189 838 = some (.iaload) := cf189_834.2.2.2.2.1
theorem f189_839 : zf 189 839 = some (.aload_n 0) := cf189_834.2.2.2.2.2.1
theorem f189_840 : zf 189 840 = some (.iload_n 3) := cf189_834.2.2.2.2.2.2.1
theorem f189_841 : zf 189 841 = some (.iconst 3) := cf189_834.2.2.2.2.2.2.2.1
theorem f189_842 : zf 189 842 = some (.iadd) := cf189_834.2.2.2.2.2.2.2.2.1
theorem f189_843 : zf 189 843 = some (.iaload) := cf189_834.2.2.2.2.2.2.2.2.2.1
theorem f189_844 : zf 189 844 = some (.aload_n 0) := cf189_834.2.2.2.2.2.2.2.2.2.2.1
theorem f189_845 : zf 189 845 = some (.iload_n 3) := cf189_834.2.2.2.2.2.2.2.2.2.2.2.1
theorem f189_846 : zf 189 846 = some (.iconst 4) := cf189_834.2.2.2.2.2.2.2.2.2.2.2.2.1
theorem f189_847 : zf 189 847 = some (.iadd) := cf189_834.2.2.2.2.2.2.2.2.2.2.2.2.2.1
theorem f189_848 : zf 189 848 = some (.iaload) := cf189_834.2.2.2.2.2.2.2.2.2.2.2.2.2.2.1
theorem f189_849 : zf 189 849 = some (.aload_n 0) := cf189_834.2.2.2.2.2.2.2.2.2.2.2.2.2.2.2
theorem cf189_850 : zf 189 850 = some (.iload_n 3) ∧ zf 189 851 = some (.iconst 5) ∧ zf 189 852 = some (.iadd) ∧ zf 189 853 = some (.iaload) ∧ zf 189 854 = some (.invokevirtual 106) ∧ zf 189 857 = some (.pop) ∧ zf 189 858 = some (.aload_n 2) ∧ zf 189 859 = some (.aload_n 0) ∧ zf 189 860 = some (.iload_n 3) ∧ zf 189 861 = some (.iconst 1) ∧ zf 189 862 = some (.iadd) ∧ zf 189 863 = some (.iaload) ∧ zf 189 864 = some (.aload_n 0) ∧ zf 189 865 = some (.iload_n 3) ∧ zf 189 866 = some (.iconst 2) ∧ zf 189 867 = some (.iadd) := by decide +kernel
theorem f189_850 : zf 189 850 = some (.iload_n 3) := cf189_850.1
theorem f189_851 : zf 189 851 = some (.iconst 5) := cf189_850.2.1
theorem f189_852 : zf 189 852 = some (.iadd) := cf189_850.2.2.1
theorem f189_853 : zf 189 853 = some (.iaload) := cf189_850.2.2.2.1
theorem f189_854 : zf 189 854 = some (.invokevirtual 106) := cf189_850.2.2.2.2.1
theorem f189_857 : zf 189 857 = some (.pop) := cf189_850.2.2.2.2.2.1
theorem f189_858 : zf 189 858 = some (.aload_n 2) := cf189_850.2.2.2.2.2.2.1
theorem f189_859 : zf 189 859 = some (.aload_n 0) := cf189_850.2.2.2.2.2.2.2.1
theorem f189_860 : zf 189 860 = some (.iload_n 3) := cf189_850.2.2.2.2.2.2.2.2.1
theorem f189_861 : zf 189 861 = some (.iconst 1) := cf189_850.2.2.2.2.2.2.2.2.2.1
theorem f189_862 : zf 189 862 = some (.iadd) := cf189_850.2.2.2.2.2.2.2.2.2.2.1
theorem f189_863 : zf 189 863 = some (.iaload) := cf189_850.2.2.2.2.2.2.2.2.2.2.2.1
theorem f189_864 : zf 189 864 = some (.aload_n 0) := cf189_850.2.2.2.2.2.2.2.2.2.2.2.2.1
theorem f189_865 : zf 189 865 = some (.iload_n 3) := cf189_850.2.2.2.2.2.2.2.2.2.2.2.2.2.1
theorem f189_866 : zf 189 866 = some (.iconst 2) := cf189_850.2.2.2.2.2.2.2.2.2.2.2.2.2.2.1
theorem f189_867 : zf 189 867 = some (.iadd) := cf189_850.2.2.2.2.2.2.2.2.2.2.2.2.2.2.2
theorem cf189_868 : zf 189 868 = some (.iaload) ∧ zf 189 869 = some (.aload_n 0) ∧ zf 189 870 = some (.iload_n 3) ∧ zf 189 871 = some (.iconst 3) ∧ zf 189 872 = some (.iadd) ∧ zf 189 873 = some (.iaload) ∧ zf 189 874 = some (.aload_n 0) ∧ zf 189 875 = some (.iload_n 3) ∧ zf 189 876 = some (.iconst 4) ∧ zf 189 877 = some (.iadd) ∧ zf 189 878 = some (.iaload) ∧ zf 189 879 = some (.aload_n 0) ∧ zf 189 880 = some (.iload_n 3) ∧ zf 189 881 = some (.iconst 5) ∧ zf 189 882 = some (.iadd) ∧ zf 189 883 = some (.iaload) := by decide +kernel
theorem f189_868 : zf 189 868 = some (.iaload) := cf189_868.1
theorem f189_869 : zf 189 869 = some (.aload_n 0) := cf189_868.2.1
theorem f189_870 : zf 189 870 = some (.iload_n 3) := cf189_868.2.2.1
theorem f189_871 : zf 189 871 = some (.iconst 3) := cf189_868.2.2.2.1
theorem f189_872 : zf 189 872 = some (.iadd) := cf189_868.2.2.2.2.1
theorem f189_873 : zf 189 873 = some (.iaload) := cf189_868.2.2.2.2.2.1
theorem f189_874 : zf 189 874 = some (.aload_n 0) := cf189_868.2.2.2.2.2.2.1
theorem f189_875 : zf 189 875 = some (.iload_n 3) := cf189_868.2.2.2.2.2.2.2.1
theorem f189_876 : zf 189 876 = some (.iconst 4) := cf189_868.2.2.2.2.2.2.2.2.1
theorem f189_877 : zf 189 877 = some (.iadd) := cf189_868.2.2.2.2.2.2.2.2.2.1
theorem f189_878 : zf 189 878 = some (.iaload) := cf189_868.2.2.2.2.2.2.2.2.2.2.1
theorem f189_879 : zf 189 879 = some (.aload_n 0) := cf189_868.2.2.2.2.2.2.2.2.2.2.2.1
theorem f189_880 : zf 189 880 = some (.iload_n 3) := cf189_868.2.2.2.2.2.2.2.2.2.2.2.2.1
theorem f189_881 : zf 189 881 = some (.iconst 5) := cf189_868.2.2.2.2.2.2.2.2.2.2.2.2.2.1
theorem f189_882 : zf 189 882 = some (.iadd) := cf189_868.2.2.2.2.2.2.2.2.2.2.2.2.2.2.1
theorem f189_883 : zf 189 883 = some (.iaload) := cf189_868.2.2.2.2.2.2.2.2.2.2.2.2.2.2.2
theorem cf189_884 : zf 189 884 = some (.invokevirtual 110) ∧ zf 189 887 = some (.pop) ∧ zf 189 888 = some (.goto 125) ∧ zf 189 891 = some (.aload_n 1) ∧ zf 189 892 = some (.aload_n 0) ∧ zf 189 893 = some (.iload_n 3) ∧ zf 189 894 = some (.iconst 1) ∧ zf 189 895 = some (.iadd) ∧ zf 189 896 = some (.iaload) ∧ zf 189 897 = some (.aload_n 0) ∧ zf 189 898 = some (.iload_n 3) ∧ zf 189 899 = some (.iconst 2) ∧ zf 189 900 = some (.iadd) ∧ zf 189 901 = some (.iaload) ∧ zf 189 902 = some (.aload_n 0) ∧ zf 189 903 = some (.iload_n 3) := by decide +kernel
theorem f189_884 : zf 189 884 = some (.invokevirtual 110) := cf189_884.1
theorem f189_887 : zf 189 887 = some (.pop) := cf189_884.2.1
theorem f189_888 : zf 189 888 = some (.goto 125) := cf189_884.2.2.1
theorem f189_891 : zf 189 891 = some (.aload_n 1) := cf189_884.2.2.2.1
theorem f189_892 : zf 189 892 = some (.aload_n 0) := cf189_884.2.2.2.2.1
theorem f189_893 : zf 189 893 = some (.iload_n 3) := cf189_884.2.2.2.2.2.1
theorem f189_894 : zf 189 894 = some (.iconst 1) := cf189_884.2.2.2.2.2.2.1
theorem f189_895 : zf 189 895 = some (.iadd) := cf189_884.2.2.2.2.2.2.2.1
theorem f189_896 : zf 189 896 = some (.iaload) := cf189_884.2.2.2.2.2.2.2.2.1
theorem f189_897 : zf 189 897 = some (.aload_n 0) := cf189_884.2.2.2.2.2.2.2.2.2.1
theorem f189_898 : zf 189 898 = some (.iload_n 3) := cf189_884.2.2.2.2.2.2.2.2.2.2.1
theorem f189_899 : zf 189 899 = some (.iconst 2) := cf189_884.2.2.2.2.2.2.2.2.2.2.2.1
theorem f189_900 : zf 189 900 = some (.iadd) := cf189_884.2.2.2.2.2.2.2.2.2.2.2.2.1
theorem f189_901 : zf 189 901 = some (.iaload) := cf189_884.2.2.2.2.2.2.2.2.2.2.2.2.2.1
theorem f189_902 : zf 189 902 = some (.aload_n 0) := cf189_884.2.2.2.2.2.2.2.2.2.2.2.2.2.2.1
theorem f189_903 : zf 189 903 = some (.iload_n 3) := cf189_884.2.2.2.2.2.2.2.2.2.2.2.2.2.2.2
theorem cf189_904 : zf 189 904 = some (.iconst 3) ∧ zf 189 905 = some (.iadd) ∧ zf 189 906 = some (.iaload) ∧ zf 189 907 = some (.invokevirtual 111) ∧ zf 189 910 = some (.pop) ∧ zf 189 911 = some (.aload_n 2) ∧ zf 189 912 = some (.aload_n 0) ∧ zf 189 913 = some (.iload_n 3) ∧ zf 189 914 = some (.iconst 1) ∧ zf 189 915 = some (.iadd) ∧ zf 189 916 = some (.iaload) ∧ zf 189 917 = some (.aload_n 0) ∧ zf 189 918 = some (.iload_n 3) ∧ zf 189 919 = some (.iconst 2) ∧ zf 189 920 = some (.iadd) ∧ zf 189 921 = some (.iaload) := by decide +kernel
theorem f189_904 : zf 189 904 = some (.iconst 3) := cf189_904.1
theorem f189_905 : zf 189 905 = some (.iadd) := cf189_904.2.1
theorem f189_906 : zf 189 906 = some (.iaload) := cf189_904.2.2.1
theorem f189_907 : zf 189 907 = some (.invokevirtual 111) := cf189_904.2.2.2.1
theorem f189_910 : zf 189 910 = some (.pop) := cf189_904.2.2.2.2.1
theorem f189_911 : zf 189 911 = some (.aload_n 2) := cf189_904.2.2.2.2.2.1
theorem f189_912 : zf 189 912 = some (.aload_n 0) := cf189_904.2.2.2.2.2.2.1
theorem f189_913 : zf 189 913 = some (.iload_n 3) := cf189_904.2.2.2.2.2.2.2.1
theorem f189_914 : zf 189 914 = some (.iconst 1) := cf189_904.2.2.2.2.2.2.2.2.1
theorem f189_915 : zf 189 915 = some (.iadd) := cf189_904.2.2.2.2.2.2.2.2.2.1
theorem f189_916 : zf 189 916 = some (.iaload) := cf189_904.2.2.2.2.2.2.2.2.2.2.1
theorem f189_917 : zf 189 917 = some (.aload_n 0) := cf189_904.2.2.2.2.2.2.2.2.2.2.2.1
theorem f189_918 : zf 189 918 = some (.iload_n 3) := cf189_904.2.2.2.2.2.2.2.2.2.2.2.2.1
theorem f189_919 : zf 189 919 = some (.iconst 2) := cf189_904.2.2.2.2.2.2.2.2.2.2.2.2.2.1
theorem f189_920 : zf 189 920 = some (.iadd) := cf189_904.2.2.2.2.2.2.2.2.2.2.2.2.2.2.1
theorem f189_921 : zf 189 921 = some (.iaload) := cf189_904.2.2.2.2.2.2.2.2.2.2.2.2.2.2.2
theorem cf189_922 : zf 189 922 = some (.aload_n 0) ∧ zf 189 923 = some (.iload_n 3) ∧ zf 189 924 = some (.iconst 3) ∧ zf 189 925 = some (.iadd) ∧ zf 189 926 = some (.iaload) ∧ zf 189 927 = some (.invokevirtual 114) ∧ zf 189 930 = some (.pop) ∧ zf 189 931 = some (.goto 82) ∧ zf 189 934 = some (.aload_n 1) ∧ zf 189 935 = some (.aload_n 0) ∧ zf 189 936 = some (.iload_n 3) ∧ zf 189 937 = some (.iconst 1) ∧ zf 189 938 = some (.iadd) ∧ zf 189 939 = some (.iaload) ∧ zf 189 940 = some (.invokevirtual 115) ∧ zf 189 943 = some (.pop) := by decide +kernel
theorem f189_922 : zf 189 922 = some (.aload_n 0) := cf189_922.1
theorem f189_923 : zf 189 923 = some (.iload_n 3) := cf189_922.2.1
theorem f189_924 : zf 189 924 = some (.iconst 3) := cf189_922.2.2.1
theorem f189_925 : zf 189 925 = some (.iadd) := cf189_922.2.2.2.1
theorem f189_926 : zf 189 926 = some (.iaload) := cf189_922.2.2.2.2.1
theorem f189_927 : zf 189 927 = some (.invokevirtual 114) := cf189_922.2.2.2.2.2.1
theorem f189_930 : zf 189 930 = some (.pop) := cf189_922.2.2.2.2.2.2.1
theorem f189_931 : zf 189 931 = some (.goto 82) := cf189_922.2.2.2.2.2.2.2.1
theorem f189_934 : zf 189 934 = some (.aload_n 1) := cf189_922.2.2.2.2.2.2.2.2.1
theorem f189_935 : zf 189 935 = some (.aload_n 0) := cf189_922.2.2.2.2.2.2.2.2.2.1
theorem f189_936 : zf 189 936 = some (.iload_n 3) := cf189_922.2.2.2.2.2.2.2.2.2.2.1
theorem f189_937 : zf 189 937 = some (.iconst 1) := cf189_922.2.2.2.2.2.2.2.2.2.2.2.1
theorem f189_938 : zf 189 938 = some (.iadd) := cf189_922.2.2.2.2.2.2.2.2.2.2.2.2.1
theorem f189_939 : zf 189 939 = some (.iaload) := cf189_922.2.2.2.2.2.2.2.2.2.2.2.2.2.1
theorem f189_940 : zf 189 940 = some (.invokevirtual 115) := cf189_922.2.2.2.2.2.2.2.2.2.2.2.2.2.2.1
theorem f189_943 : zf 189 943 = some (.pop) := cf189_922.2.2.2.2.2.2.2.2.2.2.2.2.2.2.2
theorem cf189_944 : zf 189 944 = some (.aload_n 2) ∧ zf 189 945 = some (.aload_n 0) ∧ zf 189 946 = some (.iload_n 3) ∧ zf 189 947 = some (.iconst 1) ∧ zf 189 948 = some (.iadd) ∧ zf 189 949 = some (.iaload) ∧ zf 189 950 = some (.invokevirtual 118) ∧ zf 189 953 = some (.pop) ∧ zf 189 954 = some (.goto 59) ∧ zf 189 957 = some (.aload_n 1) ∧ zf 189 958 = some (.aload_n 0) ∧ zf 189 959 = some (.iload_n 3) ∧ zf 189 960 = some (.iconst 1) ∧ zf 189 961 = some (.iadd) ∧ zf 189 962 = some (.iaload) ∧ zf 189 963 = some (.aload_n 0) := by decide +kernel
theorem f189_944 : zf 189 944 = some (.aload_n 2) := cf189_944.1
theorem f189_945 : zf 189 945 = some (.aload_n 0) := cf189_944.2.1
theorem f189_946 : zf 189 946 = some (.iload_n 3) := cf189_944.2.2.1
theorem f189_947 : zf 189 947 = some (.iconst 1) := cf189_944.2.2.2.1
theorem f189_948 : zf 189 948 = some (.iadd) := cf189_944.2.2.2.2.1
theorem f189_949 : zf 189 949 = some (.iaload) := cf189_944.2.2.2.2.2.1
theorem f189_950 : zf 189 950 = some (.invokevirtual 118) := cf189_944.2.2.2.2.2.2.1
theorem f189_953 : zf 189 953 = some (.pop) := cf189_944.2.2.2.2.2.2.2.1
theorem f189_954 : zf 189 954 = some (.goto 59) := cf189_944.2.2.2.2.2.2.2.2.1
theorem f189_957 : zf 189 957 = some (.aload_n 1) := cf189_944.2.2.2.2.2.2.2.2.2.1
theorem f189_958 : zf 189 958 = some (.aload_n 0) := cf189_944.2.2.2.2.2.2.2.2.2.2.1
theorem f189_959 : zf 189 959 = some (.iload_n 3) := cf189_944.2.2.2.2.2.2.2.2.2.2.2.1
theorem f189_960 : zf 189 960 = some (.iconst 1) := cf189_944.2.2.2.2.2.2.2.2.2.2.2.2.1
theorem f189_961 : zf 189 961 = some (.iadd) := cf189_944.2.2.2.2.2.2.2.2.2.2.2.2.2.1
theorem f189_962 : zf 189 962 = some (.iaload) := cf189_944.2.2.2.2.2.2.2.2.2.2.2.2.2.2.1
theorem f189_963 : zf 189 963 = some (.aload_n 0) := cf189_944.2.2.2.2.2.2.2.2.2.2.2.2.2.2.2
theorem cf189_964 : zf 189 964 = some (.iload_n 3) ∧ zf 189 965 = some (.iconst 2) ∧ zf 189 966 = some (.iadd) ∧ zf 189 967 = some (.iaload) ∧ zf 189 968 = some (.aload_n 0) ∧ zf 189 969 = some (.iload_n 3) ∧ zf 189 970 = some (.iconst 3) ∧ zf 189 971 = some (.iadd) ∧ zf 189 972 = some (.iaload) ∧ zf 189 973 = some (.invokevirtual 119) ∧ zf 189 976 = some (.pop) ∧ zf 189 977 = some (.aload_n 2) ∧ zf 189 978 = some (.aload_n 0) ∧ zf 189 979 = some (.iload_n 3) ∧ zf 189 980 = some (.iconst 1) ∧ zf 189 981 = some (.iadd) := by decide +kernel
theorem f189_964 : zf 189 964 = some (.iload_n 3) := cf189_964.1
theorem f189_965 : zf 189 965 = some (.iconst 2) := cf189_964.2.1
theorem f189_966 : zf 189 966 = some (.iadd) := cf189_964.2.2.1
theorem f189_967 : zf 189 967 = some (.iaload) := cf189_964.2.2.2.1
theorem f189_968 : zf 189 968 = some (.aload_n 0) := cf189_964.2.2.2.2.1
theorem f189_969 : zf 189 969 = some (.iload_n 3) := cf189_964.2.2.2.2.2.1
theorem f189_970 : zf 189 970 = some (.iconst 3) := cf189_964.2.2.2.2.2.2.1
theorem f189_971 : zf 189 971 = some (.iadd) := cf189_964.2.2.2.2.2.2.2.1
theorem f189_972 : zf 189 972 = some (.iaload) := cf189_964.2.2.2.2.2.2.2.2.1
theorem f189_973 : zf 189 973 = some (.invokevirtual 119) := cf189_964.2.2.2.2.2.2.2.2.2.1
theorem f189_976 : zf 189 976 = some (.pop) := cf189_964.2.2.2.2.2.2.2.2.2.2.1
theorem f189_977 : zf 189 977 = some (.aload_n 2) := cf189_964.2.2.2.2.2.2.2.2.2.2.2.1
theorem f189_978 : zf 189 978 = some (.aload_n 0) := cf189_964.2.2.2.2.2.2.2.2.2.2.2.2.1
theorem f189_979 : zf 189 979 = some (.iload_n 3) := cf189_964.2.2.2.2.2.2.2.2.2.2.2.2.2.1
theorem f189_980 : zf 189 980 = some (.iconst 1) := cf189_964.2.2.2.2.2.2.2.2.2.2.2.2.2.2.1
theorem f189_981 : zf 189 981 = some (.iadd) := cf189_964.2.2.2.2.2.2.2.2.2.2.2.2.2.2.2
theorem cf189_982 : zf 189 982 = some (.iaload) ∧ zf 189 983 = some (.aload_n 0) ∧ zf 189 984 = some (.iload_n 3) ∧ zf 189 985 = some (.iconst 2) ∧ zf 189 986 = some (.iadd) ∧ zf 189 987 = some (.iaload) ∧ zf 189 988 = some (.aload_n 0) ∧ zf 189 989 = some (.iload_n 3) ∧ zf 189 990 = some (.iconst 3) ∧ zf 189 991 = some (.iadd) ∧ zf 189 992 = some (.iaload) ∧ zf 189 993 = some (.invokevirtual 122) ∧ zf 189 996 = some (.pop) ∧ zf 189 997 = some (.goto 16) ∧ zf 189 1000 = some (.aload_n 1) ∧ zf 189 1001 = some (.invokevirtual 123) := by decide +kernel
theorem f189_982 : zf 189 982 = some (.iaload) := cf189_982.1
theorem f189_983 : zf 189 983 = some (.aload_n 0) := cf189_982.2.1
theorem f189_984 : zf 189 984 = some (.iload_n 3) := cf189_982.2.2.1
theorem f189_985 : zf 189 985 = some (.iconst 2) := cf189_982.2.2.2.1
theorem f189_986 : zf 189 986 = some (.iadd) := cf189_982.2.2.2.2.1
theorem f189_987 : zf 189 987 = some (.iaload) := cf189_982.2.2.2.2.2.1
theorem f189_988 : zf 189 988 = some (.aload_n 0) := cf189_982.2.2.2.2.2.2.1
theorem f189_989 : zf 189 989 = some (.iload_n 3) := cf189_982.2.2.2.2.2.2.2.1
theorem f189_990 : zf 189 990 = some (.iconst 3) := cf189_982.2.2.2.2.2.2.2.2.1
theorem f189_991 : zf 189 991 = some (.iadd) := cf189_982.2.2.2.2.2.2.2.2.2.1
theorem f189_992 : zf 189 992 = some (.iaload) := cf189_982.2.2.2.2.2.2.2.2.2.2.1
theorem f189_993 : zf 189 993 = some (.invokevirtual 122) := cf189_982.2.2.2.2.2.2.2.2.2.2.2.1
theorem f189_996 : zf 189 996 = some (.pop) := cf189_982.2.2.2.2.2.2.2.2.2.2.2.2.1
theorem f189_997 : zf 189 997 = some (.goto 16) := cf189_982.2.2.2.2.2.2.2.2.2.2.2.2.2.1
theorem f189_1000 : zf 189 1000 = some (.aload_n 1) := cf189_982.2.2.2.2.2.2.2.2.2.2.2.2.2.2.1
theorem f189_1001 : zf 189 1001 = some (.invokevirtual 123) := cf189_982.2.2.2.2.2.2.2.2.2.2.2.2.2.2.2
theorem cf189_1004 : zf 189 1004 = some (.pop) ∧ zf 189 1005 = some (.aload_n 2) ∧ zf 189 1006 = some (.invokevirtual 127) ∧ zf 189 1009 = some (.pop) ∧ zf 189 1010 = some (.goto 3) ∧ zf 189 1013 = some (.iinc 3 6) ∧ zf 189 1016 = some (.goto (-998)) ∧ zf 189 1019 = some (.iconst 1) ∧ zf 189 1020 = some (.ireturn) := by decide +kernel
theorem f189_1004 : zf 189 1004 = some (.pop) := cf189_1004.1
theorem f189_1005 : zf 189 1005 = some (.aload_n 2) := cf189_1004.2.1
theorem f189_1006 : zf 189 1006 = some (.invokevirtual 127) := cf189_1004.2.2.1
theorem f189_1009 : zf 189 1009 = some (.pop) := cf189_1004.2.2.2.1
theorem f189_1010 : zf 189 1010 = some (.goto 3) := cf189_1004.2.2.2.2.1
theorem f189_1013 : zf 189 1013 = some (.iinc 3 6) := cf189_1004.2.2.2.2.2.1
theorem f189_1016 : zf 189 1016 = some (.goto (-998)) := cf189_1004.2.2.2.2.2.2.1
theorem f189_1019 : zf 189 1019 = some (.iconst 1) := cf189_1004.2.2.2.2.2.2.2.1
theorem f189_1020 : zf 189 1020 = some (.ireturn) := cf189_1004.2.2.2.2.2.2.2.2
