theorem d_X0_actOf_0 : decode (zmc m_X0_actOf) 0 = .ok (.aload_n 0, 1) := by decide +kernel
theorem d_X0_actOf_1 : decode (zmc m_X0_actOf) 1 = .ok (.iconst 0, 1) := by decide +kernel
theorem d_X0_actOf_2 : decode (zmc m_X0_actOf) 2 = .ok (.putfield 29, 3) := by decide +kernel
theorem d_X0_actOf_5 : decode (zmc m_X0_actOf) 5 = .ok (.aload_n 0, 1) := by decide +kernel
theorem d_X0_actOf_6 : decode (zmc m_X0_actOf) 6 = .ok (.iload_n 1, 1) := by decide +kernel
theorem d_X0_actOf_7 : decode (zmc m_X0_actOf) 7 = .ok (.invokevirtual 38, 3) := by decide +kernel
theorem d_X0_actOf_10 : decode (zmc m_X0_actOf) 10 = .ok (.ifCond .lt 12, 3) := by decide +kernel
theorem d_X0_actOf_13 : decode (zmc m_X0_actOf) 13 = .ok (.iload_n 2, 1) := by decide +kernel
theorem d_X0_actOf_14 : decode (zmc m_X0_actOf) 14 = .ok (.ifCond .lt 8, 3) := by decide +kernel
theorem d_X0_actOf_17 : decode (zmc m_X0_actOf) 17 = .ok (.iload_n 2, 1) := by decide +kernel
theorem d_X0_actOf_18 : decode (zmc m_X0_actOf) 18 = .ok (.iconst 4, 1) := by decide +kernel
theorem d_X0_actOf_19 : decode (zmc m_X0_actOf) 19 = .ok (.if_icmp .lt 5, 3) := by decide +kernel
theorem d_X0_actOf_22 : decode (zmc m_X0_actOf) 22 = .ok (.iconst 0, 1) := by decide +kernel
theorem d_X0_actOf_23 : decode (zmc m_X0_actOf) 23 = .ok (.ireturn, 1) := by decide +kernel
theorem d_X0_actOf_24 : decode (zmc m_X0_actOf) 24 = .ok (.aload_n 0, 1) := by decide +kernel
theorem d_X0_actOf_25 : decode (zmc m_X0_actOf) 25 = .ok (.iload_n 1, 1) := by decide +kernel
theorem d_X0_actOf_26 : decode (zmc m_X0_actOf) 26 = .ok (.iload_n 2, 1) := by decide +kernel
theorem d_X0_actOf_27 : decode (zmc m_X0_actOf) 27 = .ok (.iload_n 3, 1) := by decide +kernel
theorem d_X0_actOf_28 : decode (zmc m_X0_actOf) 28 = .ok (.iconst 0, 1) := by decide +kernel
theorem d_X0_actOf_29 : decode (zmc m_X0_actOf) 29 = .ok (.invokevirtual 41, 3) := by decide +kernel
theorem d_X0_actOf_32 : decode (zmc m_X0_actOf) 32 = .ok (.ireturn, 1) := by decide +kernel
theorem d_X0_done_0 : decode (zmc m_X0_done) 0 = .ok (.aload_n 0, 1) := by decide +kernel
theorem d_X0_done_1 : decode (zmc m_X0_done) 1 = .ok (.aload_n 0, 1) := by decide +kernel
theorem d_X0_done_2 : decode (zmc m_X0_done) 2 = .ok (.iload_n 1, 1) := by decide +kernel
theorem d_X0_done_3 : decode (zmc m_X0_done) 3 = .ok (.invokevirtual 38, 3) := by decide +kernel
theorem d_X0_done_6 : decode (zmc m_X0_done) 6 = .ok (.iload_n 1, 1) := by decide +kernel
theorem d_X0_done_7 : decode (zmc m_X0_done) 7 = .ok (.iload_n 2, 1) := by decide +kernel
theorem d_X0_done_8 : decode (zmc m_X0_done) 8 = .ok (.iload_n 3, 1) := by decide +kernel
theorem d_X0_done_9 : decode (zmc m_X0_done) 9 = .ok (.iload 4, 2) := by decide +kernel
theorem d_X0_done_11 : decode (zmc m_X0_done) 11 = .ok (.invokevirtual 45, 3) := by decide +kernel
theorem d_X0_done_14 : decode (zmc m_X0_done) 14 = .ok (.ireturn, 1) := by decide +kernel
theorem d_X0_doneAbove_0 : decode (zmc m_X0_doneAbove) 0 = .ok (.aload_n 0, 1) := by decide +kernel
theorem d_X0_doneAbove_1 : decode (zmc m_X0_doneAbove) 1 = .ok (.iload_n 1, 1) := by decide +kernel
theorem d_X0_doneAbove_2 : decode (zmc m_X0_doneAbove) 2 = .ok (.invokestatic 22, 3) := by decide +kernel
theorem d_X0_doneAbove_5 : decode (zmc m_X0_doneAbove) 5 = .ok (.iload_n 2, 1) := by decide +kernel
theorem d_X0_doneAbove_6 : decode (zmc m_X0_doneAbove) 6 = .ok (.iload_n 3, 1) := by decide +kernel
theorem d_X0_doneAbove_7 : decode (zmc m_X0_doneAbove) 7 = .ok (.iload 4, 2) := by decide +kernel
theorem d_X0_doneAbove_9 : decode (zmc m_X0_doneAbove) 9 = .ok (.iload 5, 2) := by decide +kernel
theorem d_X0_doneAbove_11 : decode (zmc m_X0_doneAbove) 11 = .ok (.invokevirtual 45, 3) := by decide +kernel
theorem d_X0_doneAbove_14 : decode (zmc m_X0_doneAbove) 14 = .ok (.ireturn, 1) := by decide +kernel
theorem d_X0_doneAs_0 : decode (zmc m_X0_doneAs) 0 = .ok (.iload_n 1, 1) := by decide +kernel
theorem d_X0_doneAs_1 : decode (zmc m_X0_doneAs) 1 = .ok (.istore 6, 2) := by decide +kernel
theorem d_X0_doneAs_3 : decode (zmc m_X0_doneAs) 3 = .ok (.iconst 0, 1) := by decide +kernel
theorem d_X0_doneAs_4 : decode (zmc m_X0_doneAs) 4 = .ok (.istore 7, 2) := by decide +kernel
theorem d_X0_doneAs_6 : decode (zmc m_X0_doneAs) 6 = .ok (.iload 7, 2) := by decide +kernel
theorem d_X0_doneAs_8 : decode (zmc m_X0_doneAs) 8 = .ok (.bipush 8, 2) := by decide +kernel
theorem d_X0_doneAs_10 : decode (zmc m_X0_doneAs) 10 = .ok (.if_icmp .ge 25, 3) := by decide +kernel
theorem d_X0_doneAs_13 : decode (zmc m_X0_doneAs) 13 = .ok (.iload 6, 2) := by decide +kernel
theorem d_X0_doneAs_15 : decode (zmc m_X0_doneAs) 15 = .ok (.iload_n 3, 1) := by decide +kernel
theorem d_X0_doneAs_16 : decode (zmc m_X0_doneAs) 16 = .ok (.invokestatic 49, 3) := by decide +kernel
theorem d_X0_doneAs_19 : decode (zmc m_X0_doneAs) 19 = .ok (.ifCond .ne 16, 3) := by decide +kernel
theorem d_X0_doneAs_22 : decode (zmc m_X0_doneAs) 22 = .ok (.iload 6, 2) := by decide +kernel
theorem d_X0_doneAs_24 : decode (zmc m_X0_doneAs) 24 = .ok (.invokestatic 22, 3) := by decide +kernel
theorem d_X0_doneAs_27 : decode (zmc m_X0_doneAs) 27 = .ok (.istore 6, 2) := by decide +kernel
theorem d_X0_doneAs_29 : decode (zmc m_X0_doneAs) 29 = .ok (.iinc 7 1, 3) := by decide +kernel
theorem d_X0_doneAs_32 : decode (zmc m_X0_doneAs) 32 = .ok (.goto (-26), 3) := by decide +kernel
theorem d_X0_doneAs_35 : decode (zmc m_X0_doneAs) 35 = .ok (.iload 6, 2) := by decide +kernel
theorem d_X0_doneAs_37 : decode (zmc m_X0_doneAs) 37 = .ok (.iload_n 3, 1) := by decide +kernel
theorem d_X0_doneAs_38 : decode (zmc m_X0_doneAs) 38 = .ok (.invokestatic 49, 3) := by decide +kernel
theorem d_X0_doneAs_41 : decode (zmc m_X0_doneAs) 41 = .ok (.istore 7, 2) := by decide +kernel
theorem d_X0_doneAs_43 : decode (zmc m_X0_doneAs) 43 = .ok (.iload 7, 2) := by decide +kernel
theorem d_X0_doneAs_45 : decode (zmc m_X0_doneAs) 45 = .ok (.ifCond .eq 10, 3) := by decide +kernel
theorem d_X0_doneAs_48 : decode (zmc m_X0_doneAs) 48 = .ok (.iload 5, 2) := by decide +kernel
theorem d_X0_doneAs_50 : decode (zmc m_X0_doneAs) 50 = .ok (.bipush 40, 2) := by decide +kernel
theorem d_X0_doneAs_52 : decode (zmc m_X0_doneAs) 52 = .ok (.if_icmp .le 5, 3) := by decide +kernel
theorem d_X0_doneAs_55 : decode (zmc m_X0_doneAs) 55 = .ok (.iconst 0, 1) := by decide +kernel
theorem d_X0_doneAs_56 : decode (zmc m_X0_doneAs) 56 = .ok (.ireturn, 1) := by decide +kernel
theorem d_X0_doneAs_57 : decode (zmc m_X0_doneAs) 57 = .ok (.aload_n 0, 1) := by decide +kernel
theorem d_X0_doneAs_58 : decode (zmc m_X0_doneAs) 58 = .ok (.iload 7, 2) := by decide +kernel
theorem d_X0_doneAs_60 : decode (zmc m_X0_doneAs) 60 = .ok (.invokevirtual 52, 3) := by decide +kernel
theorem d_X0_doneAs_63 : decode (zmc m_X0_doneAs) 63 = .ok (.iload 5, 2) := by decide +kernel
theorem d_X0_doneAs_65 : decode (zmc m_X0_doneAs) 65 = .ok (.iconst 1, 1) := by decide +kernel
theorem d_X0_doneAs_66 : decode (zmc m_X0_doneAs) 66 = .ok (.iadd, 1) := by decide +kernel
theorem d_X0_doneAs_67 : decode (zmc m_X0_doneAs) 67 = .ok (.istore 8, 2) := by decide +kernel
theorem d_X0_doneAs_69 : decode (zmc m_X0_doneAs) 69 = .ok (.iload 7, 2) := by decide +kernel
theorem d_X0_doneAs_71 : decode (zmc m_X0_doneAs) 71 = .ok (.lookupswitch 330 #[(1, 121), (2, 126), (10, 147), (11, 160), (20, 165), (30, 180), (40, 194), (41, 209), (50, 224), (60, 239), (61, 262), (70, 277), (80, 292), (81, 315)], 121) := by decide +kernel
theorem d_X0_doneAs_192 : decode (zmc m_X0_doneAs) 192 = .ok (.iload 4, 2) := by decide +kernel
theorem d_X0_doneAs_194 : decode (zmc m_X0_doneAs) 194 = .ok (.iload_n 2, 1) := by decide +kernel
theorem d_X0_doneAs_195 : decode (zmc m_X0_doneAs) 195 = .ok (.iadd, 1) := by decide +kernel
theorem d_X0_doneAs_196 : decode (zmc m_X0_doneAs) 196 = .ok (.ireturn, 1) := by decide +kernel
theorem d_X0_doneAs_197 : decode (zmc m_X0_doneAs) 197 = .ok (.aload_n 0, 1) := by decide +kernel
theorem d_X0_doneAs_198 : decode (zmc m_X0_doneAs) 198 = .ok (.iload_n 2, 1) := by decide +kernel
theorem d_X0_doneAs_199 : decode (zmc m_X0_doneAs) 199 = .ok (.iconst 1, 1) := by decide +kernel
theorem d_X0_doneAs_200 : decode (zmc m_X0_doneAs) 200 = .ok (.iload 4, 2) := by decide +kernel
theorem d_X0_doneAs_202 : decode (zmc m_X0_doneAs) 202 = .ok (.iload 8, 2) := by decide +kernel
theorem d_X0_doneAs_204 : decode (zmc m_X0_doneAs) 204 = .ok (.invokevirtual 41, 3) := by decide +kernel
theorem d_X0_doneAs_207 : decode (zmc m_X0_doneAs) 207 = .ok (.aload_n 0, 1) := by decide +kernel
theorem d_X0_doneAs_208 : decode (zmc m_X0_doneAs) 208 = .ok (.iload_n 2, 1) := by decide +kernel
theorem d_X0_doneAs_209 : decode (zmc m_X0_doneAs) 209 = .ok (.iconst 2, 1) := by decide +kernel
theorem d_X0_doneAs_210 : decode (zmc m_X0_doneAs) 210 = .ok (.iconst 1, 1) := by decide +kernel
theorem d_X0_doneAs_211 : decode (zmc m_X0_doneAs) 211 = .ok (.iload 8, 2) := by decide +kernel
theorem d_X0_doneAs_213 : decode (zmc m_X0_doneAs) 213 = .ok (.invokevirtual 41, 3) := by decide +kernel
theorem d_X0_doneAs_216 : decode (zmc m_X0_doneAs) 216 = .ok (.isub, 1) := by decide +kernel
theorem d_X0_doneAs_217 : decode (zmc m_X0_doneAs) 217 = .ok (.ireturn, 1) := by decide +kernel
theorem d_X0_doneAs_218 : decode (zmc m_X0_doneAs) 218 = .ok (.aload_n 0, 1) := by decide +kernel
theorem d_X0_doneAs_219 : decode (zmc m_X0_doneAs) 219 = .ok (.iload_n 2, 1) := by decide +kernel
theorem d_X0_doneAs_220 : decode (zmc m_X0_doneAs) 220 = .ok (.iconst 0, 1) := by decide +kernel
theorem d_X0_doneAs_221 : decode (zmc m_X0_doneAs) 221 = .ok (.iload 4, 2) := by decide +kernel
theorem d_X0_doneAs_223 : decode (zmc m_X0_doneAs) 223 = .ok (.iload 8, 2) := by decide +kernel
theorem d_X0_doneAs_225 : decode (zmc m_X0_doneAs) 225 = .ok (.invokevirtual 41, 3) := by decide +kernel
theorem d_X0_doneAs_228 : decode (zmc m_X0_doneAs) 228 = .ok (.iconst 2, 1) := by decide +kernel
theorem d_X0_doneAs_229 : decode (zmc m_X0_doneAs) 229 = .ok (.imul, 1) := by decide +kernel
theorem d_X0_doneAs_230 : decode (zmc m_X0_doneAs) 230 = .ok (.ireturn, 1) := by decide +kernel
theorem d_X0_doneAs_231 : decode (zmc m_X0_doneAs) 231 = .ok (.iload 4, 2) := by decide +kernel
theorem d_X0_doneAs_233 : decode (zmc m_X0_doneAs) 233 = .ok (.iload_n 2, 1) := by decide +kernel
theorem d_X0_doneAs_234 : decode (zmc m_X0_doneAs) 234 = .ok (.ixor, 1) := by decide +kernel
theorem d_X0_doneAs_235 : decode (zmc m_X0_doneAs) 235 = .ok (.ireturn, 1) := by decide +kernel
theorem d_X0_doneAs_236 : decode (zmc m_X0_doneAs) 236 = .ok (.aload_n 0, 1) := by decide +kernel
theorem d_X0_doneAs_237 : decode (zmc m_X0_doneAs) 237 = .ok (.iload 6, 2) := by decide +kernel
theorem d_X0_doneAs_239 : decode (zmc m_X0_doneAs) 239 = .ok (.iload_n 2, 1) := by decide +kernel
theorem d_X0_doneAs_240 : decode (zmc m_X0_doneAs) 240 = .ok (.iload_n 3, 1) := by decide +kernel
theorem d_X0_doneAs_241 : decode (zmc m_X0_doneAs) 241 = .ok (.iload 4, 2) := by decide +kernel
theorem d_X0_doneAs_243 : decode (zmc m_X0_doneAs) 243 = .ok (.iload 8, 2) := by decide +kernel
theorem d_X0_doneAs_245 : decode (zmc m_X0_doneAs) 245 = .ok (.invokevirtual 56, 3) := by decide +kernel
theorem d_X0_doneAs_248 : decode (zmc m_X0_doneAs) 248 = .ok (.iconst 3, 1) := by decide +kernel
theorem d_X0_doneAs_249 : decode (zmc m_X0_doneAs) 249 = .ok (.iadd, 1) := by decide +kernel
theorem d_X0_doneAs_250 : decode (zmc m_X0_doneAs) 250 = .ok (.ireturn, 1) := by decide +kernel
theorem d_X0_doneAs_251 : decode (zmc m_X0_doneAs) 251 = .ok (.aload_n 0, 1) := by decide +kernel
theorem d_X0_doneAs_252 : decode (zmc m_X0_doneAs) 252 = .ok (.iload 6, 2) := by decide +kernel
theorem d_X0_doneAs_254 : decode (zmc m_X0_doneAs) 254 = .ok (.iload_n 2, 1) := by decide +kernel
theorem d_X0_doneAs_255 : decode (zmc m_X0_doneAs) 255 = .ok (.iload_n 3, 1) := by decide +kernel
theorem d_X0_doneAs_256 : decode (zmc m_X0_doneAs) 256 = .ok (.iload 4, 2) := by decide +kernel
theorem d_X0_doneAs_258 : decode (zmc m_X0_doneAs) 258 = .ok (.iload 8, 2) := by decide +kernel
theorem d_X0_doneAs_260 : decode (zmc m_X0_doneAs) 260 = .ok (.invokevirtual 56, 3) := by decide +kernel
theorem d_X0_doneAs_263 : decode (zmc m_X0_doneAs) 263 = .ok (.ineg, 1) := by decide +kernel
theorem d_X0_doneAs_264 : decode (zmc m_X0_doneAs) 264 = .ok (.ireturn, 1) := by decide +kernel
theorem d_X0_doneAs_265 : decode (zmc m_X0_doneAs) 265 = .ok (.aload_n 0, 1) := by decide +kernel
theorem d_X0_doneAs_266 : decode (zmc m_X0_doneAs) 266 = .ok (.iload 6, 2) := by decide +kernel
theorem d_X0_doneAs_268 : decode (zmc m_X0_doneAs) 268 = .ok (.iload_n 2, 1) := by decide +kernel
theorem d_X0_doneAs_269 : decode (zmc m_X0_doneAs) 269 = .ok (.iload_n 3, 1) := by decide +kernel
theorem d_X0_doneAs_270 : decode (zmc m_X0_doneAs) 270 = .ok (.iload 4, 2) := by decide +kernel
theorem d_X0_doneAs_272 : decode (zmc m_X0_doneAs) 272 = .ok (.iload 8, 2) := by decide +kernel
theorem d_X0_doneAs_274 : decode (zmc m_X0_doneAs) 274 = .ok (.invokevirtual 56, 3) := by decide +kernel
theorem d_X0_doneAs_277 : decode (zmc m_X0_doneAs) 277 = .ok (.iconst 3, 1) := by decide +kernel
theorem d_X0_doneAs_278 : decode (zmc m_X0_doneAs) 278 = .ok (.imul, 1) := by decide +kernel
theorem d_X0_doneAs_279 : decode (zmc m_X0_doneAs) 279 = .ok (.ireturn, 1) := by decide +kernel
theorem d_X0_doneAs_280 : decode (zmc m_X0_doneAs) 280 = .ok (.aload_n 0, 1) := by decide +kernel
theorem d_X0_doneAs_281 : decode (zmc m_X0_doneAs) 281 = .ok (.iload 6, 2) := by decide +kernel
theorem d_X0_doneAs_283 : decode (zmc m_X0_doneAs) 283 = .ok (.iload_n 2, 1) := by decide +kernel
theorem d_X0_doneAs_284 : decode (zmc m_X0_doneAs) 284 = .ok (.iload_n 3, 1) := by decide +kernel
theorem d_X0_doneAs_285 : decode (zmc m_X0_doneAs) 285 = .ok (.iload 4, 2) := by decide +kernel
theorem d_X0_doneAs_287 : decode (zmc m_X0_doneAs) 287 = .ok (.iconst 1, 1) := by decide +kernel
theorem d_X0_doneAs_288 : decode (zmc m_X0_doneAs) 288 = .ok (.iadd, 1) := by decide +kernel
theorem d_X0_doneAs_289 : decode (zmc m_X0_doneAs) 289 = .ok (.iload 8, 2) := by decide +kernel
theorem d_X0_doneAs_291 : decode (zmc m_X0_doneAs) 291 = .ok (.invokevirtual 56, 3) := by decide +kernel
theorem d_X0_doneAs_294 : decode (zmc m_X0_doneAs) 294 = .ok (.ireturn, 1) := by decide +kernel
theorem d_X0_doneAs_295 : decode (zmc m_X0_doneAs) 295 = .ok (.aload_n 0, 1) := by decide +kernel
theorem d_X0_doneAs_296 : decode (zmc m_X0_doneAs) 296 = .ok (.iload 6, 2) := by decide +kernel
theorem d_X0_doneAs_298 : decode (zmc m_X0_doneAs) 298 = .ok (.iload_n 2, 1) := by decide +kernel
theorem d_X0_doneAs_299 : decode (zmc m_X0_doneAs) 299 = .ok (.iload_n 3, 1) := by decide +kernel
theorem d_X0_doneAs_300 : decode (zmc m_X0_doneAs) 300 = .ok (.iload 4, 2) := by decide +kernel
theorem d_X0_doneAs_302 : decode (zmc m_X0_doneAs) 302 = .ok (.iload 8, 2) := by decide +kernel
theorem d_X0_doneAs_304 : decode (zmc m_X0_doneAs) 304 = .ok (.invokevirtual 56, 3) := by decide +kernel
theorem d_X0_doneAs_307 : decode (zmc m_X0_doneAs) 307 = .ok (.iconst 5, 1) := by decide +kernel
theorem d_X0_doneAs_308 : decode (zmc m_X0_doneAs) 308 = .ok (.ixor, 1) := by decide +kernel
theorem d_X0_doneAs_309 : decode (zmc m_X0_doneAs) 309 = .ok (.ireturn, 1) := by decide +kernel
theorem d_X0_doneAs_310 : decode (zmc m_X0_doneAs) 310 = .ok (.aload_n 0, 1) := by decide +kernel
theorem d_X0_doneAs_311 : decode (zmc m_X0_doneAs) 311 = .ok (.iload 6, 2) := by decide +kernel
theorem d_X0_doneAs_313 : decode (zmc m_X0_doneAs) 313 = .ok (.iload_n 2, 1) := by decide +kernel
theorem d_X0_doneAs_314 : decode (zmc m_X0_doneAs) 314 = .ok (.iload_n 3, 1) := by decide +kernel
theorem d_X0_doneAs_315 : decode (zmc m_X0_doneAs) 315 = .ok (.iload 4, 2) := by decide +kernel
theorem d_X0_doneAs_317 : decode (zmc m_X0_doneAs) 317 = .ok (.iload 8, 2) := by decide +kernel
theorem d_X0_doneAs_319 : decode (zmc m_X0_doneAs) 319 = .ok (.invokevirtual 56, 3) := by decide +kernel
theorem d_X0_doneAs_322 : decode (zmc m_X0_doneAs) 322 = .ok (.aload_n 0, 1) := by decide +kernel
theorem d_X0_doneAs_323 : decode (zmc m_X0_doneAs) 323 = .ok (.iload_n 2, 1) := by decide +kernel
theorem d_X0_doneAs_324 : decode (zmc m_X0_doneAs) 324 = .ok (.iconst 0, 1) := by decide +kernel
theorem d_X0_doneAs_325 : decode (zmc m_X0_doneAs) 325 = .ok (.iconst 2, 1) := by decide +kernel
theorem d_X0_doneAs_326 : decode (zmc m_X0_doneAs) 326 = .ok (.iload 8, 2) := by decide +kernel
theorem d_X0_doneAs_328 : decode (zmc m_X0_doneAs) 328 = .ok (.invokevirtual 41, 3) := by decide +kernel
theorem d_X0_doneAs_331 : decode (zmc m_X0_doneAs) 331 = .ok (.isub, 1) := by decide +kernel
theorem d_X0_doneAs_332 : decode (zmc m_X0_doneAs) 332 = .ok (.ireturn, 1) := by decide +kernel
theorem d_X0_doneAs_333 : decode (zmc m_X0_doneAs) 333 = .ok (.aload_n 0, 1) := by decide +kernel
theorem d_X0_doneAs_334 : decode (zmc m_X0_doneAs) 334 = .ok (.iload 6, 2) := by decide +kernel
theorem d_X0_doneAs_336 : decode (zmc m_X0_doneAs) 336 = .ok (.iload_n 2, 1) := by decide +kernel
theorem d_X0_doneAs_337 : decode (zmc m_X0_doneAs) 337 = .ok (.iload_n 3, 1) := by decide +kernel
theorem d_X0_doneAs_338 : decode (zmc m_X0_doneAs) 338 = .ok (.iload 4, 2) := by decide +kernel
theorem d_X0_doneAs_340 : decode (zmc m_X0_doneAs) 340 = .ok (.iload 8, 2) := by decide +kernel
theorem d_X0_doneAs_342 : decode (zmc m_X0_doneAs) 342 = .ok (.invokevirtual 56, 3) := by decide +kernel
theorem d_X0_doneAs_345 : decode (zmc m_X0_doneAs) 345 = .ok (.iconst 1, 1) := by decide +kernel
theorem d_X0_doneAs_346 : decode (zmc m_X0_doneAs) 346 = .ok (.iadd, 1) := by decide +kernel
theorem d_X0_doneAs_347 : decode (zmc m_X0_doneAs) 347 = .ok (.ireturn, 1) := by decide +kernel
theorem d_X0_doneAs_348 : decode (zmc m_X0_doneAs) 348 = .ok (.aload_n 0, 1) := by decide +kernel
theorem d_X0_doneAs_349 : decode (zmc m_X0_doneAs) 349 = .ok (.iload 6, 2) := by decide +kernel
theorem d_X0_doneAs_351 : decode (zmc m_X0_doneAs) 351 = .ok (.iload_n 2, 1) := by decide +kernel
theorem d_X0_doneAs_352 : decode (zmc m_X0_doneAs) 352 = .ok (.iload_n 3, 1) := by decide +kernel
theorem d_X0_doneAs_353 : decode (zmc m_X0_doneAs) 353 = .ok (.iload 4, 2) := by decide +kernel
theorem d_X0_doneAs_355 : decode (zmc m_X0_doneAs) 355 = .ok (.iload 8, 2) := by decide +kernel
theorem d_X0_doneAs_357 : decode (zmc m_X0_doneAs) 357 = .ok (.invokevirtual 56, 3) := by decide +kernel
theorem d_X0_doneAs_360 : decode (zmc m_X0_doneAs) 360 = .ok (.iconst 2, 1) := by decide +kernel
theorem d_X0_doneAs_361 : decode (zmc m_X0_doneAs) 361 = .ok (.imul, 1) := by decide +kernel
theorem d_X0_doneAs_362 : decode (zmc m_X0_doneAs) 362 = .ok (.ireturn, 1) := by decide +kernel
theorem d_X0_doneAs_363 : decode (zmc m_X0_doneAs) 363 = .ok (.aload_n 0, 1) := by decide +kernel
theorem d_X0_doneAs_364 : decode (zmc m_X0_doneAs) 364 = .ok (.iload 6, 2) := by decide +kernel
theorem d_X0_doneAs_366 : decode (zmc m_X0_doneAs) 366 = .ok (.iload_n 2, 1) := by decide +kernel
theorem d_X0_doneAs_367 : decode (zmc m_X0_doneAs) 367 = .ok (.iload_n 3, 1) := by decide +kernel
theorem d_X0_doneAs_368 : decode (zmc m_X0_doneAs) 368 = .ok (.iload 4, 2) := by decide +kernel
theorem d_X0_doneAs_370 : decode (zmc m_X0_doneAs) 370 = .ok (.iload 8, 2) := by decide +kernel
theorem d_X0_doneAs_372 : decode (zmc m_X0_doneAs) 372 = .ok (.invokevirtual 56, 3) := by decide +kernel
theorem d_X0_doneAs_375 : decode (zmc m_X0_doneAs) 375 = .ok (.aload_n 0, 1) := by decide +kernel
theorem d_X0_doneAs_376 : decode (zmc m_X0_doneAs) 376 = .ok (.iload_n 2, 1) := by decide +kernel
theorem d_X0_doneAs_377 : decode (zmc m_X0_doneAs) 377 = .ok (.iconst 2, 1) := by decide +kernel
theorem d_X0_doneAs_378 : decode (zmc m_X0_doneAs) 378 = .ok (.iconst 2, 1) := by decide +kernel
theorem d_X0_doneAs_379 : decode (zmc m_X0_doneAs) 379 = .ok (.iload 8, 2) := by decide +kernel
theorem d_X0_doneAs_381 : decode (zmc m_X0_doneAs) 381 = .ok (.invokevirtual 41, 3) := by decide +kernel
theorem d_X0_doneAs_384 : decode (zmc m_X0_doneAs) 384 = .ok (.iadd, 1) := by decide +kernel
theorem d_X0_doneAs_385 : decode (zmc m_X0_doneAs) 385 = .ok (.ireturn, 1) := by decide +kernel
theorem d_X0_doneAs_386 : decode (zmc m_X0_doneAs) 386 = .ok (.aload_n 0, 1) := by decide +kernel
theorem d_X0_doneAs_387 : decode (zmc m_X0_doneAs) 387 = .ok (.iload 6, 2) := by decide +kernel
theorem d_X0_doneAs_389 : decode (zmc m_X0_doneAs) 389 = .ok (.iload_n 2, 1) := by decide +kernel
theorem d_X0_doneAs_390 : decode (zmc m_X0_doneAs) 390 = .ok (.iload_n 3, 1) := by decide +kernel
theorem d_X0_doneAs_391 : decode (zmc m_X0_doneAs) 391 = .ok (.iload 4, 2) := by decide +kernel
theorem d_X0_doneAs_393 : decode (zmc m_X0_doneAs) 393 = .ok (.iload 8, 2) := by decide +kernel
theorem d_X0_doneAs_395 : decode (zmc m_X0_doneAs) 395 = .ok (.invokevirtual 56, 3) := by decide +kernel
theorem d_X0_doneAs_398 : decode (zmc m_X0_doneAs) 398 = .ok (.iconst 1, 1) := by decide +kernel
theorem d_X0_doneAs_399 : decode (zmc m_X0_doneAs) 399 = .ok (.isub, 1) := by decide +kernel
theorem d_X0_doneAs_400 : decode (zmc m_X0_doneAs) 400 = .ok (.ireturn, 1) := by decide +kernel
theorem d_X0_doneAs_401 : decode (zmc m_X0_doneAs) 401 = .ok (.iconst 0, 1) := by decide +kernel
theorem d_X0_doneAs_402 : decode (zmc m_X0_doneAs) 402 = .ok (.ireturn, 1) := by decide +kernel
/-! AN ACT -/
section S14
variable {g : zG} {l : Launch} {d : Nat} {I : Nat → Nat → Int32} {L : Nat → Nat → Int64} {fs : Nat × Nat × Option Nat}
theorem zCallVN {n0 n1 : Nat} {M : zM} {R : Nat → Nat → Option Nat} {n pc q : Nat} {lv : List (Nat × Value)} {st : List Value} {Q : Option Value → zW → Prop} {M' : zM} {idx d' kd len a ar n2 : Nat} {As rest : List Value} {P : Int32 → zW → Prop} (hd : decode (zmc M) pc = .ok (.invokevirtual idx, 3)) (hl0 : Cond.methodLink (zmo M) idx (zmy M') ∈ zWT) (hk : zMk M' ar) (hi : Cond.instanceMethod (zmy M') ∈ zWT) (hsl : Cond.selects (zmy M').cls (zmy M') (zmy M') ∈ zWT)
    (hS : zSp g l d' n2 M' (.ref a :: As) (I, L, R, n) (zX P)) (hst : st = As.reverse ++ .ref a :: rest) (har : As.length = ar) (hs : zsh a = (kd, len)) (hkd : kd < 13) (hcl : zcR kd = zmo M') (ha : a < n) (hcat : (rest.map fun v => v.category).sum ≤ 8) (hml : zmn M' ≤ 45) (hd' : d' + 1 ≤ d) (hn : zNs n0 n n2 n1) (hq : q = pc + 3)
    (kk : ∀ x (w' : zW), w'.2.2.2 = n2 → P x w' → zAW g l d n0 n1 M w' q lv (.int x :: rest) Q) : zAW g l d n0 n1 M (I, L, R, n) pc lv st Q :=
  zCallV hd hl0 hk hi hsl hS hst har hs hkd hcl ha hcat hml hd' hn hq (fun v w' hn h => by obtain ⟨x, rfl, h⟩ := h; exact kk x w' hn h)
theorem sp_X0_done (hd : 2 ≤ d) {nb : Nat} (hb : I 38 2 = nI nb) (h50 : nb ≤ 50) {b a x e : Int32} {P : Int32 → zW → Prop} (hS : zSp g l (d - 1) 100 m_X0_doneAs [.ref 38, .int (zKo I b), .int b, .int a, .int x, .int e] (zU I L fs) (zX P)) : zSp g l d 100 m_X0_done [.ref 38, .int b, .int a, .int x, .int e] (zU I L fs) (zX P) := by
  refine zSp_of (lv := [(0, .ref 38), (1, .int b), (2, .int a), (3, .int x), (4, .int e)]) k_X0_done rfl (Nat.le_of_ble_eq_true rfl) ?_
  refine zAloadN d_X0_done_0 rfl rfl (q := 1) rfl ?_
  refine zAloadN d_X0_done_1 rfl rfl (q := 2) rfl ?_
  refine zIloadN d_X0_done_2 rfl rfl (q := 3) rfl ?_
  refine zCallVP d_X0_done_3 ml_X0_38 k_X0_kindOf ki_X0_kindOf ks_X0_kindOf (sp_X0_kindOf (d := d - 1) (by omega) hb h50) rfl rfl sh_38 (by decide) rfl (by decide) (Nat.le_of_ble_eq_true rfl) (by decide) (by omega) zns100 (q := 6) rfl ?_
  refine zIloadN d_X0_done_6 rfl rfl (q := 7) rfl ?_
  refine zIloadN d_X0_done_7 rfl rfl (q := 8) rfl ?_
  refine zIloadN d_X0_done_8 rfl rfl (q := 9) rfl ?_
  refine zIload d_X0_done_9 rfl (q := 11) rfl ?_
  refine zCallVN d_X0_done_11 ml_X0_45 k_X0_doneAs ki_X0_doneAs ks_X0_doneAs hS rfl rfl sh_38 (by decide) rfl (by decide) (Nat.le_of_ble_eq_true rfl) (by decide) (by omega) zns100 (q := 14) rfl (fun y w' hn hw' => ?_)
  refine zIret d_X0_done_14 rfl rfl hn ?_
  exact ⟨_, rfl, hw'⟩
theorem sp_X0_doneAbove (hd : 2 ≤ d) {k b a x e : Int32} {P : Int32 → zW → Prop} (hS : zSp g l (d - 1) 100 m_X0_doneAs [.ref 38, .int (zAbove k), .int b, .int a, .int x, .int e] (zU I L fs) (zX P)) : zSp g l d 100 m_X0_doneAbove [.ref 38, .int k, .int b, .int a, .int x, .int e] (zU I L fs) (zX P) := by
  refine zSp_of (lv := [(0, .ref 38), (1, .int k), (2, .int b), (3, .int a), (4, .int x), (5, .int e)]) k_X0_doneAbove rfl (Nat.le_of_ble_eq_true rfl) ?_
  refine zAloadN d_X0_doneAbove_0 rfl rfl (q := 1) rfl ?_
  refine zIloadN d_X0_doneAbove_1 rfl rfl (q := 2) rfl ?_
  refine zCallSP d_X0_doneAbove_2 ml_X0_22 k_X0_above kt_X0_above (sp_X0_above (d := d - 1) (by omega) ) rfl rfl (Nat.le_of_ble_eq_true rfl) (by decide) (by omega) zns100 (q := 5) rfl ?_
  refine zIloadN d_X0_doneAbove_5 rfl rfl (q := 6) rfl ?_
  refine zIloadN d_X0_doneAbove_6 rfl rfl (q := 7) rfl ?_
  refine zIload d_X0_doneAbove_7 rfl (q := 9) rfl ?_
  refine zIload d_X0_doneAbove_9 rfl (q := 11) rfl ?_
  refine zCallVN d_X0_doneAbove_11 ml_X0_45 k_X0_doneAs ki_X0_doneAs ks_X0_doneAs hS rfl rfl sh_38 (by decide) rfl (by decide) (Nat.le_of_ble_eq_true rfl) (by decide) (by omega) zns100 (q := 14) rfl (fun y w' hn hw' => ?_)
  refine zIret d_X0_doneAbove_14 rfl rfl hn ?_
  exact ⟨_, rfl, hw'⟩
def zTQ (I : Nat → Nat → Int32) (L : Nat → Nat → Int64) (fs : Nat × Nat × Option Nat) (r : Nat) (v : Int32) (t : List Int32) : Int32 → zW → Prop := fun y w => y = v ∧ w = zU (zTrI I r t) L fs
theorem sp_X0_doneAs : ∀ (f : Nat) (d : Nat) (I : Nat → Nat → Int32) (nb r e : Nat) (K k b a x v : Int32) (t : List Int32), 2 * f + 4 ≤ d → I 38 2 = nI nb → nb ≤ 50 → I 38 3 = nI r → r + t.length < 1000 → e + f ≤ 41 → zKo I b = K → zDo f K k a b x = some (v, t) →
    zSp g l d 100 m_X0_doneAs [.ref 38, .int k, .int b, .int a, .int x, .int (nI e)] (zU I L fs) (zX (zTQ I L fs r v t)) := by
  intro f
  induction f with
  | zero =>
    intro d I nb r e K k b a x v t _ _ _ _ _ _ _ h
    cases h
  | succ f ih =>
    intro d I nb r e K k b a x v t hd hb h50 hr hlen he hK hz
    have hcases := zDo_some hz
    obtain ⟨c, hc⟩ : ∃ c, c = zRs 8 k a := ⟨_, rfl⟩
    rw [← hc] at hcases
    have hown : ¬ zOwn c a = 0 := by
      intro q
      rw [q] at hcases
      revert hcases
      decide
    have hz : zDs (zOwn c a).toNatClampNeg b x (fun y => zDo f K (zAbove c) a b y) (fun a' y => zDo f K K a' b y) = some (v, t) := by rw [hc]; exact hz
    have hb1 : ∀ (r : Nat) (u : List Int32), (zTrI I r u) 38 2 = nI nb := fun r u => hb
    have hr1 : ∀ (r : Nat) (u : List Int32), (zTrI I r u) 38 3 = nI (r + u.length) := fun r u => rfl
    have body : zA g l d m_X0_doneAs I L fs 35 [(6, .int c), (0, .ref 38), (1, .int k), (2, .int b), (3, .int a), (4, .int x), (5, .int (nI e))] (zX (zTQ I L fs r v t)) := by
      refine zIload d_X0_doneAs_35 rfl (q := 37) rfl ?_
      refine zIloadN d_X0_doneAs_37 rfl rfl (q := 38) rfl ?_
      refine zCallSP d_X0_doneAs_38 ml_X0_49 k_X0_ownOf kt_X0_ownOf (sp_X0_ownOf (d := d - 1) (by omega) ) rfl rfl (Nat.le_of_ble_eq_true rfl) (by decide) (by omega) zns100 (q := 41) rfl ?_
      refine zIstore d_X0_doneAs_41 (by decide) rfl (q := 43) rfl ?_
      refine zIload d_X0_doneAs_43 rfl (q := 45) rfl ?_
      refine zIf_eq d_X0_doneAs_45 (tgt := 55) (q := 48) (by decide) rfl (fun h => absurd h hown) (fun h45 => ?_)
      refine zIload d_X0_doneAs_48 rfl (q := 50) rfl ?_
      refine zBipush d_X0_doneAs_50 (v := 40) bc_40 (q := 52) rfl ?_
      refine zIcmp_le d_X0_doneAs_52 (tgt := 57) (q := 55) (by decide) rfl (fun h52 => ?_) (fun h => absurd (by have := (nI_leI (a := e) (b := 40) (by omega) (by omega)).mpr (by omega); exact this) h)
      refine zAloadN d_X0_doneAs_57 rfl rfl (q := 58) rfl ?_
      refine zIload d_X0_doneAs_58 rfl (q := 60) rfl ?_
      refine zCallVV d_X0_doneAs_60 ml_X0_52 k_X0_begin ki_X0_begin ks_X0_begin (sp_X0_begin (d := d - 1) (by omega) hr (by omega)) rfl rfl sh_38 (by decide) rfl (by decide) (Nat.le_of_ble_eq_true rfl) (by decide) (by omega) zns100 (q := 63) rfl (fun w' hw' => ?_)
      subst hw'
      refine zIload d_X0_doneAs_63 rfl (q := 65) rfl ?_
      refine zIconst d_X0_doneAs_65 (v := 1) ic_1 (q := 66) rfl ?_
      refine zIadd d_X0_doneAs_66 (q := 67) rfl ?_
      refine zIstore d_X0_doneAs_67 (by decide) rfl (q := 69) rfl ?_
      rw [nI_1]
      refine zIload d_X0_doneAs_69 rfl (q := 71) rfl ?_
      rcases Decidable.em (zOwn c a = (1 : Int32)) with s71_1 | s71_1
      · refine zLook d_X0_doneAs_71 (by decide) (off := 121) (by rw [s71_1]; decide) (q := 192) (by decide) ?_
        rw [s71_1] at hz
        rw [s71_1]
        cases hz
        refine zIload d_X0_doneAs_192 rfl (q := 194) rfl ?_
        refine zIloadN d_X0_doneAs_194 rfl rfl (q := 195) rfl ?_
        refine zIadd d_X0_doneAs_195 (q := 196) rfl ?_
        refine zIret d_X0_doneAs_196 rfl rfl rfl ?_
        exact ⟨_, rfl, rfl, rfl⟩
      rcases Decidable.em (zOwn c a = (2 : Int32)) with s71_2 | s71_2
      · refine zLook d_X0_doneAs_71 (by decide) (off := 126) (by rw [s71_2]; decide) (q := 197) (by decide) ?_
        rw [s71_2] at hz
        have hz : (zDo f K K 1 b x).bind (fun p => (zDo f K K 2 b 1).bind (fun q => some (p.1 - q.1, 2 :: (p.2 ++ q.2)))) = some (v, t) := hz
        obtain ⟨⟨v1, t1⟩, h1, hz2⟩ := Option.bind_eq_some_iff.mp hz
        obtain ⟨⟨v2, t2⟩, h2, h3⟩ := Option.bind_eq_some_iff.mp hz2
        cases h3
        simp only [List.length_cons, List.length_append] at hlen
        refine zAloadN d_X0_doneAs_197 rfl rfl (q := 198) rfl ?_
        refine zIloadN d_X0_doneAs_198 rfl rfl (q := 199) rfl ?_
        refine zIconst d_X0_doneAs_199 (v := 1) ic_1 (q := 200) rfl ?_
        refine zIload d_X0_doneAs_200 rfl (q := 202) rfl ?_
        refine zIload d_X0_doneAs_202 rfl (q := 204) rfl ?_
        refine zCallVX d_X0_doneAs_204 ml_X0_41 k_X0_done ki_X0_done ks_X0_done (sp_X0_done (d := d - 1) (by omega) (hb1 _ _) h50 (ih (d - 1 - 1) (zTrI I r [zOwn c a]) nb (r + 1) (e + 1) K _ b 1 _ v1 t1 (by omega) (hb1 _ _) h50 (hr1 _ _) (by omega) (by omega) hK (hK.symm ▸ h1))) rfl rfl sh_38 (by decide) rfl (by decide) (Nat.le_of_ble_eq_true rfl) (by decide) (by omega) zns100 (q := 207) rfl (fun y w' hw' => ?_)
        obtain ⟨rfl, rfl⟩ := hw'
        rw [show zTrI (zTrI I r [zOwn c a]) (r + 1) t1 = zTrI I r (zOwn c a :: t1) from zTrI_app I r [zOwn c a] t1]
        refine zAloadN d_X0_doneAs_207 rfl rfl (q := 208) rfl ?_
        refine zIloadN d_X0_doneAs_208 rfl rfl (q := 209) rfl ?_
        refine zIconst d_X0_doneAs_209 (v := 2) ic_2 (q := 210) rfl ?_
        refine zIconst d_X0_doneAs_210 (v := 1) ic_1 (q := 211) rfl ?_
        refine zIload d_X0_doneAs_211 rfl (q := 213) rfl ?_
        refine zCallVX d_X0_doneAs_213 ml_X0_41 k_X0_done ki_X0_done ks_X0_done (sp_X0_done (d := d - 1) (by omega) (hb1 _ _) h50 (ih (d - 1 - 1) (zTrI I r (zOwn c a :: t1)) nb (r + (t1.length + 1)) (e + 1) K _ b 2 _ v2 t2 (by omega) (hb1 _ _) h50 (hr1 _ _) (by omega) (by omega) hK (hK.symm ▸ h2))) rfl rfl sh_38 (by decide) rfl (by decide) (Nat.le_of_ble_eq_true rfl) (by decide) (by omega) zns100 (q := 216) rfl (fun y w' hw' => ?_)
        obtain ⟨rfl, rfl⟩ := hw'
        rw [show zTrI (zTrI I r (zOwn c a :: t1)) (r + (t1.length + 1)) t2 = zTrI I r (zOwn c a :: (t1 ++ t2)) from zTrI_app I r (zOwn c a :: t1) t2, s71_2]
        refine zIsub d_X0_doneAs_216 (q := 217) rfl ?_
        refine zIret d_X0_doneAs_217 rfl rfl rfl ?_
        exact ⟨_, rfl, rfl, rfl⟩
      rcases Decidable.em (zOwn c a = (10 : Int32)) with s71_10 | s71_10
      · refine zLook d_X0_doneAs_71 (by decide) (off := 147) (by rw [s71_10]; decide) (q := 218) (by decide) ?_
        rw [s71_10] at hz
        have hz : (zDo f K K 0 b x).bind (fun p => some (p.1 * 2, 10 :: p.2)) = some (v, t) := hz
        obtain ⟨⟨v1, t1⟩, h1, h2⟩ := Option.bind_eq_some_iff.mp hz
        cases h2
        simp only [List.length_cons] at hlen
        refine zAloadN d_X0_doneAs_218 rfl rfl (q := 219) rfl ?_
        refine zIloadN d_X0_doneAs_219 rfl rfl (q := 220) rfl ?_
        refine zIconst d_X0_doneAs_220 (v := 0) ic_0 (q := 221) rfl ?_
        refine zIload d_X0_doneAs_221 rfl (q := 223) rfl ?_
        refine zIload d_X0_doneAs_223 rfl (q := 225) rfl ?_
        refine zCallVX d_X0_doneAs_225 ml_X0_41 k_X0_done ki_X0_done ks_X0_done (sp_X0_done (d := d - 1) (by omega) (hb1 _ _) h50 (ih (d - 1 - 1) (zTrI I r [zOwn c a]) nb (r + 1) (e + 1) K _ b 0 _ v1 t1 (by omega) (hb1 _ _) h50 (hr1 _ _) (by omega) (by omega) hK (hK.symm ▸ h1))) rfl rfl sh_38 (by decide) rfl (by decide) (Nat.le_of_ble_eq_true rfl) (by decide) (by omega) zns100 (q := 228) rfl (fun y w' hw' => ?_)
        obtain ⟨rfl, rfl⟩ := hw'
        rw [show zTrI (zTrI I r [zOwn c a]) (r + 1) t1 = zTrI I r (zOwn c a :: t1) from zTrI_app I r [zOwn c a] t1, s71_10]
        refine zIconst d_X0_doneAs_228 (v := 2) ic_2 (q := 229) rfl ?_
        refine zImul d_X0_doneAs_229 (q := 230) rfl ?_
        refine zIret d_X0_doneAs_230 rfl rfl rfl ?_
        exact ⟨_, rfl, rfl, rfl⟩
      rcases Decidable.em (zOwn c a = (11 : Int32)) with s71_11 | s71_11
      · refine zLook d_X0_doneAs_71 (by decide) (off := 160) (by rw [s71_11]; decide) (q := 231) (by decide) ?_
        rw [s71_11] at hz
        rw [s71_11]
        cases hz
        refine zIload d_X0_doneAs_231 rfl (q := 233) rfl ?_
        refine zIloadN d_X0_doneAs_233 rfl rfl (q := 234) rfl ?_
        refine zIxor d_X0_doneAs_234 (q := 235) rfl ?_
        refine zIret d_X0_doneAs_235 rfl rfl rfl ?_
        exact ⟨_, rfl, rfl, rfl⟩
      rcases Decidable.em (zOwn c a = (20 : Int32)) with s71_20 | s71_20
      · refine zLook d_X0_doneAs_71 (by decide) (off := 165) (by rw [s71_20]; decide) (q := 236) (by decide) ?_
        rw [s71_20] at hz
        have hz : (zDo f K (zAbove c) a b (x)).bind (fun p => some (p.1 + 3, 20 :: p.2)) = some (v, t) := hz
        obtain ⟨⟨v1, t1⟩, h1, h2⟩ := Option.bind_eq_some_iff.mp hz
        cases h2
        simp only [List.length_cons] at hlen
        refine zAloadN d_X0_doneAs_236 rfl rfl (q := 237) rfl ?_
        refine zIload d_X0_doneAs_237 rfl (q := 239) rfl ?_
        refine zIloadN d_X0_doneAs_239 rfl rfl (q := 240) rfl ?_
        refine zIloadN d_X0_doneAs_240 rfl rfl (q := 241) rfl ?_
        refine zIload d_X0_doneAs_241 rfl (q := 243) rfl ?_
        refine zIload d_X0_doneAs_243 rfl (q := 245) rfl ?_
        refine zCallVX d_X0_doneAs_245 ml_X0_56 k_X0_doneAbove ki_X0_doneAbove ks_X0_doneAbove (sp_X0_doneAbove (d := d - 1) (by omega) (ih (d - 1 - 1) (zTrI I r [zOwn c a]) nb (r + 1) (e + 1) K (zAbove c) b a _ v1 t1 (by omega) (hb1 _ _) h50 (hr1 _ _) (by omega) (by omega) hK h1)) rfl rfl sh_38 (by decide) rfl (by decide) (Nat.le_of_ble_eq_true rfl) (by decide) (by omega) zns100 (q := 248) rfl (fun y w' hw' => ?_)
        obtain ⟨rfl, rfl⟩ := hw'
        rw [show zTrI (zTrI I r [zOwn c a]) (r + 1) t1 = zTrI I r (zOwn c a :: t1) from zTrI_app I r [zOwn c a] t1, s71_20]
        refine zIconst d_X0_doneAs_248 (v := 3) ic_3 (q := 249) rfl ?_
        refine zIadd d_X0_doneAs_249 (q := 250) rfl ?_
        refine zIret d_X0_doneAs_250 rfl rfl rfl ?_
        exact ⟨_, rfl, rfl, rfl⟩
      rcases Decidable.em (zOwn c a = (30 : Int32)) with s71_30 | s71_30
      · refine zLook d_X0_doneAs_71 (by decide) (off := 180) (by rw [s71_30]; decide) (q := 251) (by decide) ?_
        rw [s71_30] at hz
        have hz : (zDo f K (zAbove c) a b (x)).bind (fun p => some (-p.1, 30 :: p.2)) = some (v, t) := hz
        obtain ⟨⟨v1, t1⟩, h1, h2⟩ := Option.bind_eq_some_iff.mp hz
        cases h2
        simp only [List.length_cons] at hlen
        refine zAloadN d_X0_doneAs_251 rfl rfl (q := 252) rfl ?_
        refine zIload d_X0_doneAs_252 rfl (q := 254) rfl ?_
        refine zIloadN d_X0_doneAs_254 rfl rfl (q := 255) rfl ?_
        refine zIloadN d_X0_doneAs_255 rfl rfl (q := 256) rfl ?_
        refine zIload d_X0_doneAs_256 rfl (q := 258) rfl ?_
        refine zIload d_X0_doneAs_258 rfl (q := 260) rfl ?_
        refine zCallVX d_X0_doneAs_260 ml_X0_56 k_X0_doneAbove ki_X0_doneAbove ks_X0_doneAbove (sp_X0_doneAbove (d := d - 1) (by omega) (ih (d - 1 - 1) (zTrI I r [zOwn c a]) nb (r + 1) (e + 1) K (zAbove c) b a _ v1 t1 (by omega) (hb1 _ _) h50 (hr1 _ _) (by omega) (by omega) hK h1)) rfl rfl sh_38 (by decide) rfl (by decide) (Nat.le_of_ble_eq_true rfl) (by decide) (by omega) zns100 (q := 263) rfl (fun y w' hw' => ?_)
        obtain ⟨rfl, rfl⟩ := hw'
        rw [show zTrI (zTrI I r [zOwn c a]) (r + 1) t1 = zTrI I r (zOwn c a :: t1) from zTrI_app I r [zOwn c a] t1, s71_30]
        refine zIneg d_X0_doneAs_263 (q := 264) rfl ?_
        refine zIret d_X0_doneAs_264 rfl rfl rfl ?_
        exact ⟨_, rfl, rfl, rfl⟩
      rcases Decidable.em (zOwn c a = (40 : Int32)) with s71_40 | s71_40
      · refine zLook d_X0_doneAs_71 (by decide) (off := 194) (by rw [s71_40]; decide) (q := 265) (by decide) ?_
        rw [s71_40] at hz
        have hz : (zDo f K (zAbove c) a b (x)).bind (fun p => some (p.1 * 3, 40 :: p.2)) = some (v, t) := hz
        obtain ⟨⟨v1, t1⟩, h1, h2⟩ := Option.bind_eq_some_iff.mp hz
        cases h2
        simp only [List.length_cons] at hlen
        refine zAloadN d_X0_doneAs_265 rfl rfl (q := 266) rfl ?_
        refine zIload d_X0_doneAs_266 rfl (q := 268) rfl ?_
        refine zIloadN d_X0_doneAs_268 rfl rfl (q := 269) rfl ?_
        refine zIloadN d_X0_doneAs_269 rfl rfl (q := 270) rfl ?_
        refine zIload d_X0_doneAs_270 rfl (q := 272) rfl ?_
        refine zIload d_X0_doneAs_272 rfl (q := 274) rfl ?_
        refine zCallVX d_X0_doneAs_274 ml_X0_56 k_X0_doneAbove ki_X0_doneAbove ks_X0_doneAbove (sp_X0_doneAbove (d := d - 1) (by omega) (ih (d - 1 - 1) (zTrI I r [zOwn c a]) nb (r + 1) (e + 1) K (zAbove c) b a _ v1 t1 (by omega) (hb1 _ _) h50 (hr1 _ _) (by omega) (by omega) hK h1)) rfl rfl sh_38 (by decide) rfl (by decide) (Nat.le_of_ble_eq_true rfl) (by decide) (by omega) zns100 (q := 277) rfl (fun y w' hw' => ?_)
        obtain ⟨rfl, rfl⟩ := hw'
        rw [show zTrI (zTrI I r [zOwn c a]) (r + 1) t1 = zTrI I r (zOwn c a :: t1) from zTrI_app I r [zOwn c a] t1, s71_40]
        refine zIconst d_X0_doneAs_277 (v := 3) ic_3 (q := 278) rfl ?_
        refine zImul d_X0_doneAs_278 (q := 279) rfl ?_
        refine zIret d_X0_doneAs_279 rfl rfl rfl ?_
        exact ⟨_, rfl, rfl, rfl⟩
      rcases Decidable.em (zOwn c a = (41 : Int32)) with s71_41 | s71_41
      · refine zLook d_X0_doneAs_71 (by decide) (off := 209) (by rw [s71_41]; decide) (q := 280) (by decide) ?_
        rw [s71_41] at hz
        have hz : (zDo f K (zAbove c) a b (x + 1)).bind (fun p => some (p.1, 41 :: p.2)) = some (v, t) := hz
        obtain ⟨⟨v1, t1⟩, h1, h2⟩ := Option.bind_eq_some_iff.mp hz
        cases h2
        simp only [List.length_cons] at hlen
        refine zAloadN d_X0_doneAs_280 rfl rfl (q := 281) rfl ?_
        refine zIload d_X0_doneAs_281 rfl (q := 283) rfl ?_
        refine zIloadN d_X0_doneAs_283 rfl rfl (q := 284) rfl ?_
        refine zIloadN d_X0_doneAs_284 rfl rfl (q := 285) rfl ?_
        refine zIload d_X0_doneAs_285 rfl (q := 287) rfl ?_
        refine zIconst d_X0_doneAs_287 (v := 1) ic_1 (q := 288) rfl ?_
        refine zIadd d_X0_doneAs_288 (q := 289) rfl ?_
        refine zIload d_X0_doneAs_289 rfl (q := 291) rfl ?_
        refine zCallVX d_X0_doneAs_291 ml_X0_56 k_X0_doneAbove ki_X0_doneAbove ks_X0_doneAbove (sp_X0_doneAbove (d := d - 1) (by omega) (ih (d - 1 - 1) (zTrI I r [zOwn c a]) nb (r + 1) (e + 1) K (zAbove c) b a _ v1 t1 (by omega) (hb1 _ _) h50 (hr1 _ _) (by omega) (by omega) hK h1)) rfl rfl sh_38 (by decide) rfl (by decide) (Nat.le_of_ble_eq_true rfl) (by decide) (by omega) zns100 (q := 294) rfl (fun y w' hw' => ?_)
        obtain ⟨rfl, rfl⟩ := hw'
        rw [show zTrI (zTrI I r [zOwn c a]) (r + 1) t1 = zTrI I r (zOwn c a :: t1) from zTrI_app I r [zOwn c a] t1, s71_41]
        refine zIret d_X0_doneAs_294 rfl rfl rfl ?_
        exact ⟨_, rfl, rfl, rfl⟩
      rcases Decidable.em (zOwn c a = (50 : Int32)) with s71_50 | s71_50
      · refine zLook d_X0_doneAs_71 (by decide) (off := 224) (by rw [s71_50]; decide) (q := 295) (by decide) ?_
        rw [s71_50] at hz
        have hz : (zDo f K (zAbove c) a b (x)).bind (fun p => some (p.1 ^^^ 5, 50 :: p.2)) = some (v, t) := hz
        obtain ⟨⟨v1, t1⟩, h1, h2⟩ := Option.bind_eq_some_iff.mp hz
        cases h2
        simp only [List.length_cons] at hlen
        refine zAloadN d_X0_doneAs_295 rfl rfl (q := 296) rfl ?_
        refine zIload d_X0_doneAs_296 rfl (q := 298) rfl ?_
        refine zIloadN d_X0_doneAs_298 rfl rfl (q := 299) rfl ?_
        refine zIloadN d_X0_doneAs_299 rfl rfl (q := 300) rfl ?_
        refine zIload d_X0_doneAs_300 rfl (q := 302) rfl ?_
        refine zIload d_X0_doneAs_302 rfl (q := 304) rfl ?_
        refine zCallVX d_X0_doneAs_304 ml_X0_56 k_X0_doneAbove ki_X0_doneAbove ks_X0_doneAbove (sp_X0_doneAbove (d := d - 1) (by omega) (ih (d - 1 - 1) (zTrI I r [zOwn c a]) nb (r + 1) (e + 1) K (zAbove c) b a _ v1 t1 (by omega) (hb1 _ _) h50 (hr1 _ _) (by omega) (by omega) hK h1)) rfl rfl sh_38 (by decide) rfl (by decide) (Nat.le_of_ble_eq_true rfl) (by decide) (by omega) zns100 (q := 307) rfl (fun y w' hw' => ?_)
        obtain ⟨rfl, rfl⟩ := hw'
        rw [show zTrI (zTrI I r [zOwn c a]) (r + 1) t1 = zTrI I r (zOwn c a :: t1) from zTrI_app I r [zOwn c a] t1, s71_50]
        refine zIconst d_X0_doneAs_307 (v := 5) ic_5 (q := 308) rfl ?_
        refine zIxor d_X0_doneAs_308 (q := 309) rfl ?_
        refine zIret d_X0_doneAs_309 rfl rfl rfl ?_
        exact ⟨_, rfl, rfl, rfl⟩
      rcases Decidable.em (zOwn c a = (60 : Int32)) with s71_60 | s71_60
      · refine zLook d_X0_doneAs_71 (by decide) (off := 239) (by rw [s71_60]; decide) (q := 310) (by decide) ?_
        rw [s71_60] at hz
        have hz : (zDo f K (zAbove c) a b x).bind (fun p => (zDo f K K 0 b 2).bind (fun q => some (p.1 - q.1, 60 :: (p.2 ++ q.2)))) = some (v, t) := hz
        obtain ⟨⟨v1, t1⟩, h1, hz2⟩ := Option.bind_eq_some_iff.mp hz
        obtain ⟨⟨v2, t2⟩, h2, h3⟩ := Option.bind_eq_some_iff.mp hz2
        cases h3
        simp only [List.length_cons, List.length_append] at hlen
        refine zAloadN d_X0_doneAs_310 rfl rfl (q := 311) rfl ?_
        refine zIload d_X0_doneAs_311 rfl (q := 313) rfl ?_
        refine zIloadN d_X0_doneAs_313 rfl rfl (q := 314) rfl ?_
        refine zIloadN d_X0_doneAs_314 rfl rfl (q := 315) rfl ?_
        refine zIload d_X0_doneAs_315 rfl (q := 317) rfl ?_
        refine zIload d_X0_doneAs_317 rfl (q := 319) rfl ?_
        refine zCallVX d_X0_doneAs_319 ml_X0_56 k_X0_doneAbove ki_X0_doneAbove ks_X0_doneAbove (sp_X0_doneAbove (d := d - 1) (by omega) (ih (d - 1 - 1) (zTrI I r [zOwn c a]) nb (r + 1) (e + 1) K (zAbove c) b a _ v1 t1 (by omega) (hb1 _ _) h50 (hr1 _ _) (by omega) (by omega) hK h1)) rfl rfl sh_38 (by decide) rfl (by decide) (Nat.le_of_ble_eq_true rfl) (by decide) (by omega) zns100 (q := 322) rfl (fun y w' hw' => ?_)
        obtain ⟨rfl, rfl⟩ := hw'
        rw [show zTrI (zTrI I r [zOwn c a]) (r + 1) t1 = zTrI I r (zOwn c a :: t1) from zTrI_app I r [zOwn c a] t1]
        refine zAloadN d_X0_doneAs_322 rfl rfl (q := 323) rfl ?_
        refine zIloadN d_X0_doneAs_323 rfl rfl (q := 324) rfl ?_
        refine zIconst d_X0_doneAs_324 (v := 0) ic_0 (q := 325) rfl ?_
        refine zIconst d_X0_doneAs_325 (v := 2) ic_2 (q := 326) rfl ?_
        refine zIload d_X0_doneAs_326 rfl (q := 328) rfl ?_
        refine zCallVX d_X0_doneAs_328 ml_X0_41 k_X0_done ki_X0_done ks_X0_done (sp_X0_done (d := d - 1) (by omega) (hb1 _ _) h50 (ih (d - 1 - 1) (zTrI I r (zOwn c a :: t1)) nb (r + (t1.length + 1)) (e + 1) K _ b 0 _ v2 t2 (by omega) (hb1 _ _) h50 (hr1 _ _) (by omega) (by omega) hK (hK.symm ▸ h2))) rfl rfl sh_38 (by decide) rfl (by decide) (Nat.le_of_ble_eq_true rfl) (by decide) (by omega) zns100 (q := 331) rfl (fun y w' hw' => ?_)
        obtain ⟨rfl, rfl⟩ := hw'
        rw [show zTrI (zTrI I r (zOwn c a :: t1)) (r + (t1.length + 1)) t2 = zTrI I r (zOwn c a :: (t1 ++ t2)) from zTrI_app I r (zOwn c a :: t1) t2, s71_60]
        refine zIsub d_X0_doneAs_331 (q := 332) rfl ?_
        refine zIret d_X0_doneAs_332 rfl rfl rfl ?_
        exact ⟨_, rfl, rfl, rfl⟩
      rcases Decidable.em (zOwn c a = (61 : Int32)) with s71_61 | s71_61
      · refine zLook d_X0_doneAs_71 (by decide) (off := 262) (by rw [s71_61]; decide) (q := 333) (by decide) ?_
        rw [s71_61] at hz
        have hz : (zDo f K (zAbove c) a b (x)).bind (fun p => some (p.1 + 1, 61 :: p.2)) = some (v, t) := hz
        obtain ⟨⟨v1, t1⟩, h1, h2⟩ := Option.bind_eq_some_iff.mp hz
        cases h2
        simp only [List.length_cons] at hlen
        refine zAloadN d_X0_doneAs_333 rfl rfl (q := 334) rfl ?_
        refine zIload d_X0_doneAs_334 rfl (q := 336) rfl ?_
        refine zIloadN d_X0_doneAs_336 rfl rfl (q := 337) rfl ?_
        refine zIloadN d_X0_doneAs_337 rfl rfl (q := 338) rfl ?_
        refine zIload d_X0_doneAs_338 rfl (q := 340) rfl ?_
        refine zIload d_X0_doneAs_340 rfl (q := 342) rfl ?_
        refine zCallVX d_X0_doneAs_342 ml_X0_56 k_X0_doneAbove ki_X0_doneAbove ks_X0_doneAbove (sp_X0_doneAbove (d := d - 1) (by omega) (ih (d - 1 - 1) (zTrI I r [zOwn c a]) nb (r + 1) (e + 1) K (zAbove c) b a _ v1 t1 (by omega) (hb1 _ _) h50 (hr1 _ _) (by omega) (by omega) hK h1)) rfl rfl sh_38 (by decide) rfl (by decide) (Nat.le_of_ble_eq_true rfl) (by decide) (by omega) zns100 (q := 345) rfl (fun y w' hw' => ?_)
        obtain ⟨rfl, rfl⟩ := hw'
        rw [show zTrI (zTrI I r [zOwn c a]) (r + 1) t1 = zTrI I r (zOwn c a :: t1) from zTrI_app I r [zOwn c a] t1, s71_61]
        refine zIconst d_X0_doneAs_345 (v := 1) ic_1 (q := 346) rfl ?_
        refine zIadd d_X0_doneAs_346 (q := 347) rfl ?_
        refine zIret d_X0_doneAs_347 rfl rfl rfl ?_
        exact ⟨_, rfl, rfl, rfl⟩
      rcases Decidable.em (zOwn c a = (70 : Int32)) with s71_70 | s71_70
      · refine zLook d_X0_doneAs_71 (by decide) (off := 277) (by rw [s71_70]; decide) (q := 348) (by decide) ?_
        rw [s71_70] at hz
        have hz : (zDo f K (zAbove c) a b (x)).bind (fun p => some (p.1 * 2, 70 :: p.2)) = some (v, t) := hz
        obtain ⟨⟨v1, t1⟩, h1, h2⟩ := Option.bind_eq_some_iff.mp hz
        cases h2
        simp only [List.length_cons] at hlen
        refine zAloadN d_X0_doneAs_348 rfl rfl (q := 349) rfl ?_
        refine zIload d_X0_doneAs_349 rfl (q := 351) rfl ?_
        refine zIloadN d_X0_doneAs_351 rfl rfl (q := 352) rfl ?_
        refine zIloadN d_X0_doneAs_352 rfl rfl (q := 353) rfl ?_
        refine zIload d_X0_doneAs_353 rfl (q := 355) rfl ?_
        refine zIload d_X0_doneAs_355 rfl (q := 357) rfl ?_
        refine zCallVX d_X0_doneAs_357 ml_X0_56 k_X0_doneAbove ki_X0_doneAbove ks_X0_doneAbove (sp_X0_doneAbove (d := d - 1) (by omega) (ih (d - 1 - 1) (zTrI I r [zOwn c a]) nb (r + 1) (e + 1) K (zAbove c) b a _ v1 t1 (by omega) (hb1 _ _) h50 (hr1 _ _) (by omega) (by omega) hK h1)) rfl rfl sh_38 (by decide) rfl (by decide) (Nat.le_of_ble_eq_true rfl) (by decide) (by omega) zns100 (q := 360) rfl (fun y w' hw' => ?_)
        obtain ⟨rfl, rfl⟩ := hw'
        rw [show zTrI (zTrI I r [zOwn c a]) (r + 1) t1 = zTrI I r (zOwn c a :: t1) from zTrI_app I r [zOwn c a] t1, s71_70]
        refine zIconst d_X0_doneAs_360 (v := 2) ic_2 (q := 361) rfl ?_
        refine zImul d_X0_doneAs_361 (q := 362) rfl ?_
        refine zIret d_X0_doneAs_362 rfl rfl rfl ?_
        exact ⟨_, rfl, rfl, rfl⟩
      rcases Decidable.em (zOwn c a = (80 : Int32)) with s71_80 | s71_80
      · refine zLook d_X0_doneAs_71 (by decide) (off := 292) (by rw [s71_80]; decide) (q := 363) (by decide) ?_
        rw [s71_80] at hz
        have hz : (zDo f K (zAbove c) a b x).bind (fun p => (zDo f K K 2 b 2).bind (fun q => some (p.1 + q.1, 80 :: (p.2 ++ q.2)))) = some (v, t) := hz
        obtain ⟨⟨v1, t1⟩, h1, hz2⟩ := Option.bind_eq_some_iff.mp hz
        obtain ⟨⟨v2, t2⟩, h2, h3⟩ := Option.bind_eq_some_iff.mp hz2
        cases h3
        simp only [List.length_cons, List.length_append] at hlen
        refine zAloadN d_X0_doneAs_363 rfl rfl (q := 364) rfl ?_
        refine zIload d_X0_doneAs_364 rfl (q := 366) rfl ?_
        refine zIloadN d_X0_doneAs_366 rfl rfl (q := 367) rfl ?_
        refine zIloadN d_X0_doneAs_367 rfl rfl (q := 368) rfl ?_
        refine zIload d_X0_doneAs_368 rfl (q := 370) rfl ?_
        refine zIload d_X0_doneAs_370 rfl (q := 372) rfl ?_
        refine zCallVX d_X0_doneAs_372 ml_X0_56 k_X0_doneAbove ki_X0_doneAbove ks_X0_doneAbove (sp_X0_doneAbove (d := d - 1) (by omega) (ih (d - 1 - 1) (zTrI I r [zOwn c a]) nb (r + 1) (e + 1) K (zAbove c) b a _ v1 t1 (by omega) (hb1 _ _) h50 (hr1 _ _) (by omega) (by omega) hK h1)) rfl rfl sh_38 (by decide) rfl (by decide) (Nat.le_of_ble_eq_true rfl) (by decide) (by omega) zns100 (q := 375) rfl (fun y w' hw' => ?_)
        obtain ⟨rfl, rfl⟩ := hw'
        rw [show zTrI (zTrI I r [zOwn c a]) (r + 1) t1 = zTrI I r (zOwn c a :: t1) from zTrI_app I r [zOwn c a] t1]
        refine zAloadN d_X0_doneAs_375 rfl rfl (q := 376) rfl ?_
        refine zIloadN d_X0_doneAs_376 rfl rfl (q := 377) rfl ?_
        refine zIconst d_X0_doneAs_377 (v := 2) ic_2 (q := 378) rfl ?_
        refine zIconst d_X0_doneAs_378 (v := 2) ic_2 (q := 379) rfl ?_
        refine zIload d_X0_doneAs_379 rfl (q := 381) rfl ?_
        refine zCallVX d_X0_doneAs_381 ml_X0_41 k_X0_done ki_X0_done ks_X0_done (sp_X0_done (d := d - 1) (by omega) (hb1 _ _) h50 (ih (d - 1 - 1) (zTrI I r (zOwn c a :: t1)) nb (r + (t1.length + 1)) (e + 1) K _ b 2 _ v2 t2 (by omega) (hb1 _ _) h50 (hr1 _ _) (by omega) (by omega) hK (hK.symm ▸ h2))) rfl rfl sh_38 (by decide) rfl (by decide) (Nat.le_of_ble_eq_true rfl) (by decide) (by omega) zns100 (q := 384) rfl (fun y w' hw' => ?_)
        obtain ⟨rfl, rfl⟩ := hw'
        rw [show zTrI (zTrI I r (zOwn c a :: t1)) (r + (t1.length + 1)) t2 = zTrI I r (zOwn c a :: (t1 ++ t2)) from zTrI_app I r (zOwn c a :: t1) t2, s71_80]
        refine zIadd d_X0_doneAs_384 (q := 385) rfl ?_
        refine zIret d_X0_doneAs_385 rfl rfl rfl ?_
        exact ⟨_, rfl, rfl, rfl⟩
      rcases Decidable.em (zOwn c a = (81 : Int32)) with s71_81 | s71_81
      · refine zLook d_X0_doneAs_71 (by decide) (off := 315) (by rw [s71_81]; decide) (q := 386) (by decide) ?_
        rw [s71_81] at hz
        have hz : (zDo f K (zAbove c) a b (x)).bind (fun p => some (p.1 - 1, 81 :: p.2)) = some (v, t) := hz
        obtain ⟨⟨v1, t1⟩, h1, h2⟩ := Option.bind_eq_some_iff.mp hz
        cases h2
        simp only [List.length_cons] at hlen
        refine zAloadN d_X0_doneAs_386 rfl rfl (q := 387) rfl ?_
        refine zIload d_X0_doneAs_387 rfl (q := 389) rfl ?_
        refine zIloadN d_X0_doneAs_389 rfl rfl (q := 390) rfl ?_
        refine zIloadN d_X0_doneAs_390 rfl rfl (q := 391) rfl ?_
        refine zIload d_X0_doneAs_391 rfl (q := 393) rfl ?_
        refine zIload d_X0_doneAs_393 rfl (q := 395) rfl ?_
        refine zCallVX d_X0_doneAs_395 ml_X0_56 k_X0_doneAbove ki_X0_doneAbove ks_X0_doneAbove (sp_X0_doneAbove (d := d - 1) (by omega) (ih (d - 1 - 1) (zTrI I r [zOwn c a]) nb (r + 1) (e + 1) K (zAbove c) b a _ v1 t1 (by omega) (hb1 _ _) h50 (hr1 _ _) (by omega) (by omega) hK h1)) rfl rfl sh_38 (by decide) rfl (by decide) (Nat.le_of_ble_eq_true rfl) (by decide) (by omega) zns100 (q := 398) rfl (fun y w' hw' => ?_)
        obtain ⟨rfl, rfl⟩ := hw'
        rw [show zTrI (zTrI I r [zOwn c a]) (r + 1) t1 = zTrI I r (zOwn c a :: t1) from zTrI_app I r [zOwn c a] t1, s71_81]
        refine zIconst d_X0_doneAs_398 (v := 1) ic_1 (q := 399) rfl ?_
        refine zIsub d_X0_doneAs_399 (q := 400) rfl ?_
        refine zIret d_X0_doneAs_400 rfl rfl rfl ?_
        exact ⟨_, rfl, rfl, rfl⟩
      exact absurd hcases (by simp only [s71_1, s71_2, s71_10, s71_11, s71_20, s71_30, s71_40, s71_41, s71_50, s71_60, s71_61, s71_70, s71_80, s71_81, or_self, not_false_eq_true])
    have loop : ∀ i, i ≤ 8 → ∀ c', zRs (8 - i) c' a = c → zA g l d m_X0_doneAs I L fs 6 [(7, .int (nI i)), (6, .int c'), (0, .ref 38), (1, .int k), (2, .int b), (3, .int a), (4, .int x), (5, .int (nI e))] (zX (zTQ I L fs r v t)) := by
      refine zloop 8 (fun i hi ih2 c' hx => ?_)
      refine zIload d_X0_doneAs_6 rfl (q := 8) rfl ?_
      refine zBipush d_X0_doneAs_8 (v := 8) bc_8 (q := 10) rfl ?_
      refine zIcmp_ge d_X0_doneAs_10 (tgt := 35) (q := 13) (by decide) rfl (fun h10 => ?_) (fun h10 => ?_)
      · have e8 : i = 8 := by have := nle (b := 8) h10; omega
        subst e8
        have hx : c' = c := hx
        subst hx
        refine zSub [1, 2, 3, 4, 5, 6, 7] rfl ?_
        exact body
      · have hlt := nnle (b := 8) h10
        obtain ⟨m, hm⟩ : ∃ m, 8 - i = m + 1 := ⟨8 - i - 1, by omega⟩
        have hm2 : 8 - (i + 1) = m := by omega
        rw [hm] at hx
        refine zIload d_X0_doneAs_13 rfl (q := 15) rfl ?_
        refine zIloadN d_X0_doneAs_15 rfl rfl (q := 16) rfl ?_
        refine zCallSP d_X0_doneAs_16 ml_X0_49 k_X0_ownOf kt_X0_ownOf (sp_X0_ownOf (d := d - 1) (by omega) ) rfl rfl (Nat.le_of_ble_eq_true rfl) (by decide) (by omega) zns100 (q := 19) rfl ?_
        refine zIf_ne d_X0_doneAs_19 (tgt := 35) (q := 22) (by decide) rfl (fun h19 => ?_) (fun h19 => ?_)
        · have hx : c' = c := by rw [← hx]; exact (if_neg h19).symm
          subst hx
          refine zSub [1, 2, 3, 4, 5, 6, 7] rfl ?_
          exact body
        · refine zIload d_X0_doneAs_22 rfl (q := 24) rfl ?_
          refine zCallSP d_X0_doneAs_24 ml_X0_22 k_X0_above kt_X0_above (sp_X0_above (d := d - 1) (by omega) ) rfl rfl (Nat.le_of_ble_eq_true rfl) (by decide) (by omega) zns100 (q := 27) rfl ?_
          refine zIstore d_X0_doneAs_27 (by decide) rfl (q := 29) rfl ?_
          refine zIinc d_X0_doneAs_29 rfl (zinc _) (by decide) rfl (q := 32) rfl ?_
          refine zGoto d_X0_doneAs_32 (q := 6) (by decide) ?_
          refine zSub [0, 1, 2, 3, 4, 5, 6, 7] rfl ?_
          exact ih2 hlt _ (by rw [hm2, ← hx]; exact (if_pos h19).symm)
    refine zSp_of (lv := [(0, .ref 38), (1, .int k), (2, .int b), (3, .int a), (4, .int x), (5, .int (nI e))]) k_X0_doneAs rfl (Nat.le_of_ble_eq_true rfl) ?_
    refine zIloadN d_X0_doneAs_0 rfl rfl (q := 1) rfl ?_
    refine zIstore d_X0_doneAs_1 (by decide) rfl (q := 3) rfl ?_
    refine zIconst d_X0_doneAs_3 (v := 0) ic_0 (q := 4) rfl ?_
    refine zIstore d_X0_doneAs_4 (by decide) rfl (q := 6) rfl ?_
    refine zSub [0, 1, 2, 3, 4, 5, 6, 7] rfl ?_
    exact loop 0 (Nat.zero_le _) k hc.symm
theorem sp_X0_actOf (hd : 40 ≤ d) {nb : Nat} (hb : I 38 2 = nI nb) (h50 : nb ≤ 50) {b a x v : Int32} {t : List Int32} (ht : t.length < 900)
    (hv : (0 ≤ zKo I b ∧ 0 ≤ a ∧ a < 4) → zDo 12 (zKo I b) (zKo I b) a b x = some (v, t)) (hv0 : ¬ (0 ≤ zKo I b ∧ 0 ≤ a ∧ a < 4) → v = 0 ∧ t = []) :
    zSp g l d 100 m_X0_actOf [.ref 38, .int b, .int a, .int x] (zU I L fs) (zX (fun y w => y = v ∧ w = zU (zTrI (zup I 38 (zup (I 38) 3 0)) 0 t) L fs)) := by
  refine zSp_of (lv := [(0, .ref 38), (1, .int b), (2, .int a), (3, .int x)]) k_X0_actOf rfl (Nat.le_of_ble_eq_true rfl) ?_
  refine zAloadN d_X0_actOf_0 rfl rfl (q := 1) rfl ?_
  refine zIconst d_X0_actOf_1 (v := 0) ic_0 (q := 2) rfl ?_
  refine zPutI d_X0_actOf_2 ff_X0_29 rfl rfl rfl sh_38 (by decide) (q := 5) rfl ?_
  refine zAloadN d_X0_actOf_5 rfl rfl (q := 6) rfl ?_
  refine zIloadN d_X0_actOf_6 rfl rfl (q := 7) rfl ?_
  refine zCallVP d_X0_actOf_7 ml_X0_38 k_X0_kindOf ki_X0_kindOf ks_X0_kindOf (sp_X0_kindOf (d := d - 1) (I := zup I 38 (zup (I 38) 3 0)) (by omega) hb h50) rfl rfl sh_38 (by decide) rfl (by decide) (Nat.le_of_ble_eq_true rfl) (by decide) (by omega) zns100 (q := 10) rfl ?_
  refine zIf_lt d_X0_actOf_10 (tgt := 22) (q := 13) (by decide) rfl (fun h10 => ?_) (fun h10 => ?_)
  · refine zIconst d_X0_actOf_22 (v := 0) ic_0 (q := 23) rfl ?_
    refine zIret d_X0_actOf_23 rfl rfl rfl ?_
    have hn : ¬ (0 ≤ zKo I b ∧ 0 ≤ a ∧ a < 4) := by first | (intro q; have q1 : zKo I b < 0 := h10; grind) | (intro q; grind)
    obtain ⟨rfl, rfl⟩ := hv0 hn
    refine ⟨_, rfl, rfl, ?_⟩
    unfold zTrI
    show zU (zup I 38 (zup (I 38) 3 0)) L fs = zU (zup (zup (zup I 38 (zup (I 38) 3 0)) 40 (I 40)) 38 (zup (zup (I 38) 3 0) 3 (nI 0))) L fs
    rw [zup_zup, zup_comm (show (38 : Nat) ≠ 40 by decide), zup_zup, zup_self]
    rfl
  · refine zIloadN d_X0_actOf_13 rfl rfl (q := 14) rfl ?_
    refine zIf_lt d_X0_actOf_14 (tgt := 22) (q := 17) (by decide) rfl (fun h14 => ?_) (fun h14 => ?_)
    · refine zIconst d_X0_actOf_22 (v := 0) ic_0 (q := 23) rfl ?_
      refine zIret d_X0_actOf_23 rfl rfl rfl ?_
      have hn : ¬ (0 ≤ zKo I b ∧ 0 ≤ a ∧ a < 4) := by first | (intro q; have q1 : zKo I b < 0 := h10; grind) | (intro q; grind)
      obtain ⟨rfl, rfl⟩ := hv0 hn
      refine ⟨_, rfl, rfl, ?_⟩
      unfold zTrI
      show zU (zup I 38 (zup (I 38) 3 0)) L fs = zU (zup (zup (zup I 38 (zup (I 38) 3 0)) 40 (I 40)) 38 (zup (zup (I 38) 3 0) 3 (nI 0))) L fs
      rw [zup_zup, zup_comm (show (38 : Nat) ≠ 40 by decide), zup_zup, zup_self]
      rfl
    · refine zIloadN d_X0_actOf_17 rfl rfl (q := 18) rfl ?_
      refine zIconst d_X0_actOf_18 (v := 4) ic_4 (q := 19) rfl ?_
      refine zIcmp_lt d_X0_actOf_19 (tgt := 24) (q := 22) (by decide) rfl (fun h19 => ?_) (fun h19 => ?_)
      · have eK : zKo (zup I 38 (zup (I 38) 3 0)) b = zKo I b := rfl
        have hq : zDo 12 (zKo I b) (zKo I b) a b x = some (v, t) := hv (by have q1 : ¬ zKo I b < 0 := h10; grind)
        rw [← eK] at hq
        have hS := sp_X0_doneAs (g := g) (l := l) (L := L) (fs := fs) 12 (d - 1 - 1) (zup I 38 (zup (I 38) 3 0)) nb 0 0 (zKo (zup I 38 (zup (I 38) 3 0)) b) (zKo (zup I 38 (zup (I 38) 3 0)) b) b a x v t (by omega) hb h50 rfl (by omega) (by omega) rfl hq
        clear hv hv0 hq
        refine zAloadN d_X0_actOf_24 rfl rfl (q := 25) rfl ?_
        refine zIloadN d_X0_actOf_25 rfl rfl (q := 26) rfl ?_
        refine zIloadN d_X0_actOf_26 rfl rfl (q := 27) rfl ?_
        refine zIloadN d_X0_actOf_27 rfl rfl (q := 28) rfl ?_
        refine zIconst d_X0_actOf_28 (v := 0) ic_0 (q := 29) rfl ?_
        refine zCallVX d_X0_actOf_29 ml_X0_41 k_X0_done ki_X0_done ks_X0_done (sp_X0_done (d := d - 1) (I := zup I 38 (zup (I 38) 3 0)) (by omega) hb h50 hS) rfl rfl sh_38 (by decide) rfl (by decide) (Nat.le_of_ble_eq_true rfl) (by decide) (by omega) zns100 (q := 32) rfl (fun y w' hw' => ?_)
        obtain ⟨rfl, rfl⟩ := hw'
        refine zIret d_X0_actOf_32 rfl rfl rfl ?_
        exact ⟨_, rfl, rfl, rfl⟩
      · refine zIconst d_X0_actOf_22 (v := 0) ic_0 (q := 23) rfl ?_
        refine zIret d_X0_actOf_23 rfl rfl rfl ?_
        have hn : ¬ (0 ≤ zKo I b ∧ 0 ≤ a ∧ a < 4) := by first | (intro q; have q1 : zKo I b < 0 := h10; grind) | (intro q; grind)
        obtain ⟨rfl, rfl⟩ := hv0 hn
        refine ⟨_, rfl, rfl, ?_⟩
        unfold zTrI
        show zU (zup I 38 (zup (I 38) 3 0)) L fs = zU (zup (zup (zup I 38 (zup (I 38) 3 0)) 40 (I 40)) 38 (zup (zup (I 38) 3 0) 3 (nI 0))) L fs
        rw [zup_zup, zup_comm (show (38 : Nat) ≠ 40 by decide), zup_zup, zup_self]
        rfl
end S14

