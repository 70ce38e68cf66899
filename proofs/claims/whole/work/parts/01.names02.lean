theorem dX3_readTerm_224 : decode cX3_readTerm 224 = .ok (.iload 10, 2) := by decide +kernel
theorem dX3_readTerm_226 : decode cX3_readTerm 226 = .ok (.iconst 3, 1) := by decide +kernel
theorem dX3_readTerm_227 : decode cX3_readTerm 227 = .ok (.iadd, 1) := by decide +kernel
theorem dX3_readTerm_228 : decode cX3_readTerm 228 = .ok (.iload_n 1, 1) := by decide +kernel
theorem dX3_readTerm_229 : decode cX3_readTerm 229 = .ok (.iastore, 1) := by decide +kernel
theorem dX3_readTerm_230 : decode cX3_readTerm 230 = .ok (.aload_n 0, 1) := by decide +kernel
theorem dX3_readTerm_231 : decode cX3_readTerm 231 = .ok (.getfield 15, 3) := by decide +kernel
theorem dX3_readTerm_234 : decode cX3_readTerm 234 = .ok (.iload 10, 2) := by decide +kernel
theorem dX3_readTerm_236 : decode cX3_readTerm 236 = .ok (.iconst 4, 1) := by decide +kernel
theorem dX3_readTerm_237 : decode cX3_readTerm 237 = .ok (.iadd, 1) := by decide +kernel
theorem dX3_readTerm_238 : decode cX3_readTerm 238 = .ok (.iload 5, 2) := by decide +kernel
theorem dX3_readTerm_240 : decode cX3_readTerm 240 = .ok (.iastore, 1) := by decide +kernel
theorem dX3_readTerm_241 : decode cX3_readTerm 241 = .ok (.aload_n 0, 1) := by decide +kernel
theorem dX3_readTerm_242 : decode cX3_readTerm 242 = .ok (.getfield 15, 3) := by decide +kernel
theorem dX3_readTerm_245 : decode cX3_readTerm 245 = .ok (.iload 10, 2) := by decide +kernel
theorem dX3_readTerm_247 : decode cX3_readTerm 247 = .ok (.iconst 5, 1) := by decide +kernel
theorem dX3_readTerm_248 : decode cX3_readTerm 248 = .ok (.iadd, 1) := by decide +kernel
theorem dX3_readTerm_249 : decode cX3_readTerm 249 = .ok (.iload 6, 2) := by decide +kernel
theorem dX3_readTerm_251 : decode cX3_readTerm 251 = .ok (.iastore, 1) := by decide +kernel
theorem dX3_readTerm_252 : decode cX3_readTerm 252 = .ok (.aload_n 0, 1) := by decide +kernel
theorem dX3_readTerm_253 : decode cX3_readTerm 253 = .ok (.getfield 15, 3) := by decide +kernel
theorem dX3_readTerm_256 : decode cX3_readTerm 256 = .ok (.iload 10, 2) := by decide +kernel
theorem dX3_readTerm_258 : decode cX3_readTerm 258 = .ok (.bipush 6, 2) := by decide +kernel
theorem dX3_readTerm_260 : decode cX3_readTerm 260 = .ok (.iadd, 1) := by decide +kernel
theorem dX3_readTerm_261 : decode cX3_readTerm 261 = .ok (.iload 8, 2) := by decide +kernel
theorem dX3_readTerm_263 : decode cX3_readTerm 263 = .ok (.iastore, 1) := by decide +kernel
theorem dX3_readTerm_264 : decode cX3_readTerm 264 = .ok (.aload_n 0, 1) := by decide +kernel
theorem dX3_readTerm_265 : decode cX3_readTerm 265 = .ok (.getfield 15, 3) := by decide +kernel
theorem dX3_readTerm_268 : decode cX3_readTerm 268 = .ok (.iload 10, 2) := by decide +kernel
theorem dX3_readTerm_270 : decode cX3_readTerm 270 = .ok (.bipush 7, 2) := by decide +kernel
theorem dX3_readTerm_272 : decode cX3_readTerm 272 = .ok (.iadd, 1) := by decide +kernel
theorem dX3_readTerm_273 : decode cX3_readTerm 273 = .ok (.iload 9, 2) := by decide +kernel
theorem dX3_readTerm_275 : decode cX3_readTerm 275 = .ok (.iastore, 1) := by decide +kernel
theorem dX3_readTerm_276 : decode cX3_readTerm 276 = .ok (.aload_n 0, 1) := by decide +kernel
theorem dX3_readTerm_277 : decode cX3_readTerm 277 = .ok (.dup, 1) := by decide +kernel
theorem dX3_readTerm_278 : decode cX3_readTerm 278 = .ok (.getfield 33, 3) := by decide +kernel
theorem dX3_readTerm_281 : decode cX3_readTerm 281 = .ok (.iconst 1, 1) := by decide +kernel
theorem dX3_readTerm_282 : decode cX3_readTerm 282 = .ok (.iadd, 1) := by decide +kernel
theorem dX3_readTerm_283 : decode cX3_readTerm 283 = .ok (.putfield 33, 3) := by decide +kernel
theorem dX3_readTerm_286 : decode cX3_readTerm 286 = .ok (.aload_n 0, 1) := by decide +kernel
theorem dX3_readTerm_287 : decode cX3_readTerm 287 = .ok (.getfield 18, 3) := by decide +kernel
theorem dX3_readTerm_290 : decode cX3_readTerm 290 = .ok (.iload_n 2, 1) := by decide +kernel
theorem dX3_readTerm_291 : decode cX3_readTerm 291 = .ok (.dup2, 1) := by decide +kernel
theorem dX3_readTerm_292 : decode cX3_readTerm 292 = .ok (.iaload, 1) := by decide +kernel
theorem dX3_readTerm_293 : decode cX3_readTerm 293 = .ok (.iconst 1, 1) := by decide +kernel
theorem dX3_readTerm_294 : decode cX3_readTerm 294 = .ok (.iadd, 1) := by decide +kernel
theorem dX3_readTerm_295 : decode cX3_readTerm 295 = .ok (.iastore, 1) := by decide +kernel
theorem dX3_readTerm_296 : decode cX3_readTerm 296 = .ok (.return_, 1) := by decide +kernel
theorem dX3_setDown_0 : decode cX3_setDown 0 = .ok (.aload_n 0, 1) := by decide +kernel
theorem dX3_setDown_1 : decode cX3_setDown 1 = .ok (.getfield 40, 3) := by decide +kernel
theorem dX3_setDown_4 : decode cX3_setDown 4 = .ok (.iconst (-1), 1) := by decide +kernel
theorem dX3_setDown_5 : decode cX3_setDown 5 = .ok (.if_icmp .ne 12, 3) := by decide +kernel
theorem dX3_setDown_8 : decode cX3_setDown 8 = .ok (.aload_n 0, 1) := by decide +kernel
theorem dX3_setDown_9 : decode cX3_setDown 9 = .ok (.getfield 25, 3) := by decide +kernel
theorem dX3_setDown_12 : decode cX3_setDown 12 = .ok (.bipush 20, 2) := by decide +kernel
theorem dX3_setDown_14 : decode cX3_setDown 14 = .ok (.if_icmp .lt 4, 3) := by decide +kernel
theorem dX3_setDown_17 : decode cX3_setDown 17 = .ok (.return_, 1) := by decide +kernel
theorem dX3_setDown_18 : decode cX3_setDown 18 = .ok (.aload_n 0, 1) := by decide +kernel
theorem dX3_setDown_19 : decode cX3_setDown 19 = .ok (.getfield 25, 3) := by decide +kernel
theorem dX3_setDown_22 : decode cX3_setDown 22 = .ok (.bipush 8, 2) := by decide +kernel
theorem dX3_setDown_24 : decode cX3_setDown 24 = .ok (.imul, 1) := by decide +kernel
theorem dX3_setDown_25 : decode cX3_setDown 25 = .ok (.istore 4, 2) := by decide +kernel
theorem dX3_setDown_27 : decode cX3_setDown 27 = .ok (.aload_n 0, 1) := by decide +kernel
theorem dX3_setDown_28 : decode cX3_setDown 28 = .ok (.getfield 15, 3) := by decide +kernel
theorem dX3_setDown_31 : decode cX3_setDown 31 = .ok (.iload 4, 2) := by decide +kernel
theorem dX3_setDown_33 : decode cX3_setDown 33 = .ok (.iconst 0, 1) := by decide +kernel
theorem dX3_setDown_34 : decode cX3_setDown 34 = .ok (.iadd, 1) := by decide +kernel
theorem dX3_setDown_35 : decode cX3_setDown 35 = .ok (.iload_n 1, 1) := by decide +kernel
theorem dX3_setDown_36 : decode cX3_setDown 36 = .ok (.iastore, 1) := by decide +kernel
theorem dX3_setDown_37 : decode cX3_setDown 37 = .ok (.aload_n 0, 1) := by decide +kernel
theorem dX3_setDown_38 : decode cX3_setDown 38 = .ok (.getfield 15, 3) := by decide +kernel
theorem dX3_setDown_41 : decode cX3_setDown 41 = .ok (.iload 4, 2) := by decide +kernel
theorem dX3_setDown_43 : decode cX3_setDown 43 = .ok (.iconst 1, 1) := by decide +kernel
theorem dX3_setDown_44 : decode cX3_setDown 44 = .ok (.iadd, 1) := by decide +kernel
theorem dX3_setDown_45 : decode cX3_setDown 45 = .ok (.iload_n 2, 1) := by decide +kernel
theorem dX3_setDown_46 : decode cX3_setDown 46 = .ok (.iastore, 1) := by decide +kernel
theorem dX3_setDown_47 : decode cX3_setDown 47 = .ok (.aload_n 0, 1) := by decide +kernel
theorem dX3_setDown_48 : decode cX3_setDown 48 = .ok (.getfield 15, 3) := by decide +kernel
theorem dX3_setDown_51 : decode cX3_setDown 51 = .ok (.iload 4, 2) := by decide +kernel
theorem dX3_setDown_53 : decode cX3_setDown 53 = .ok (.iconst 2, 1) := by decide +kernel
theorem dX3_setDown_54 : decode cX3_setDown 54 = .ok (.iadd, 1) := by decide +kernel
theorem dX3_setDown_55 : decode cX3_setDown 55 = .ok (.iload_n 3, 1) := by decide +kernel
theorem dX3_setDown_56 : decode cX3_setDown 56 = .ok (.iastore, 1) := by decide +kernel
theorem dX3_setDown_57 : decode cX3_setDown 57 = .ok (.aload_n 0, 1) := by decide +kernel
theorem dX3_setDown_58 : decode cX3_setDown 58 = .ok (.dup, 1) := by decide +kernel
theorem dX3_setDown_59 : decode cX3_setDown 59 = .ok (.getfield 25, 3) := by decide +kernel
theorem dX3_setDown_62 : decode cX3_setDown 62 = .ok (.iconst 1, 1) := by decide +kernel
theorem dX3_setDown_63 : decode cX3_setDown 63 = .ok (.iadd, 1) := by decide +kernel
theorem dX3_setDown_64 : decode cX3_setDown 64 = .ok (.putfield 25, 3) := by decide +kernel
theorem dX3_setDown_67 : decode cX3_setDown 67 = .ok (.return_, 1) := by decide +kernel
theorem dX3_kindOfWord_0 : decode cX3_kindOfWord 0 = .ok (.iconst 0, 1) := by decide +kernel
theorem dX3_kindOfWord_1 : decode cX3_kindOfWord 1 = .ok (.istore_n 1, 1) := by decide +kernel
theorem dX3_kindOfWord_2 : decode cX3_kindOfWord 2 = .ok (.iload_n 1, 1) := by decide +kernel
theorem dX3_kindOfWord_3 : decode cX3_kindOfWord 3 = .ok (.bipush 7, 2) := by decide +kernel
theorem dX3_kindOfWord_5 : decode cX3_kindOfWord 5 = .ok (.if_icmp .ge 30, 3) := by decide +kernel
theorem dX3_kindOfWord_8 : decode cX3_kindOfWord 8 = .ok (.aload_n 0, 1) := by decide +kernel
theorem dX3_kindOfWord_9 : decode cX3_kindOfWord 9 = .ok (.getfield 52, 3) := by decide +kernel
theorem dX3_kindOfWord_12 : decode cX3_kindOfWord 12 = .ok (.iconst 1, 1) := by decide +kernel
theorem dX3_kindOfWord_13 : decode cX3_kindOfWord 13 = .ok (.if_icmp .ne 16, 3) := by decide +kernel
theorem dX3_kindOfWord_16 : decode cX3_kindOfWord 16 = .ok (.aload_n 0, 1) := by decide +kernel
theorem dX3_kindOfWord_17 : decode cX3_kindOfWord 17 = .ok (.iload_n 1, 1) := by decide +kernel
theorem dX3_kindOfWord_18 : decode cX3_kindOfWord 18 = .ok (.invokestatic 93, 3) := by decide +kernel
theorem dX3_kindOfWord_21 : decode cX3_kindOfWord 21 = .ok (.invokevirtual 97, 3) := by decide +kernel
theorem dX3_kindOfWord_24 : decode cX3_kindOfWord 24 = .ok (.ifCond .eq 5, 3) := by decide +kernel
theorem dX3_kindOfWord_27 : decode cX3_kindOfWord 27 = .ok (.iload_n 1, 1) := by decide +kernel
theorem dX3_kindOfWord_28 : decode cX3_kindOfWord 28 = .ok (.ireturn, 1) := by decide +kernel
theorem dX3_kindOfWord_29 : decode cX3_kindOfWord 29 = .ok (.iinc 1 1, 3) := by decide +kernel
theorem dX3_kindOfWord_32 : decode cX3_kindOfWord 32 = .ok (.goto (-30), 3) := by decide +kernel
theorem dX3_kindOfWord_35 : decode cX3_kindOfWord 35 = .ok (.iconst (-1), 1) := by decide +kernel
theorem dX3_kindOfWord_36 : decode cX3_kindOfWord 36 = .ok (.ireturn, 1) := by decide +kernel
theorem dX3_kindText_0 : decode cX3_kindText 0 = .ok (.iload_n 0, 1) := by decide +kernel
theorem dX3_kindText_1 : decode cX3_kindText 1 = .ok (.tableswitch 57 0 5 #[39, 42, 45, 48, 51, 54], 39) := by decide +kernel
theorem dX3_kindText_40 : decode cX3_kindText 40 = .ok (.ldc 100, 2) := by decide +kernel
theorem dX3_kindText_42 : decode cX3_kindText 42 = .ok (.areturn, 1) := by decide +kernel
theorem dX3_kindText_43 : decode cX3_kindText 43 = .ok (.ldc 102, 2) := by decide +kernel
theorem dX3_kindText_45 : decode cX3_kindText 45 = .ok (.areturn, 1) := by decide +kernel
theorem dX3_kindText_46 : decode cX3_kindText 46 = .ok (.ldc 104, 2) := by decide +kernel
theorem dX3_kindText_48 : decode cX3_kindText 48 = .ok (.areturn, 1) := by decide +kernel
theorem dX3_kindText_49 : decode cX3_kindText 49 = .ok (.ldc 106, 2) := by decide +kernel
theorem dX3_kindText_51 : decode cX3_kindText 51 = .ok (.areturn, 1) := by decide +kernel
theorem dX3_kindText_52 : decode cX3_kindText 52 = .ok (.ldc 108, 2) := by decide +kernel
theorem dX3_kindText_54 : decode cX3_kindText 54 = .ok (.areturn, 1) := by decide +kernel
theorem dX3_kindText_55 : decode cX3_kindText 55 = .ok (.ldc 110, 2) := by decide +kernel
theorem dX3_kindText_57 : decode cX3_kindText 57 = .ok (.areturn, 1) := by decide +kernel
theorem dX3_kindText_58 : decode cX3_kindText 58 = .ok (.ldc 112, 2) := by decide +kernel
theorem dX3_kindText_60 : decode cX3_kindText 60 = .ok (.areturn, 1) := by decide +kernel
theorem dX3_takeWord_0 : decode cX3_takeWord 0 = .ok (.aload_n 0, 1) := by decide +kernel
theorem dX3_takeWord_1 : decode cX3_takeWord 1 = .ok (.getfield 40, 3) := by decide +kernel
theorem dX3_takeWord_4 : decode cX3_takeWord 4 = .ok (.iconst (-1), 1) := by decide +kernel
theorem dX3_takeWord_5 : decode cX3_takeWord 5 = .ok (.if_icmp .ne 19, 3) := by decide +kernel
theorem dX3_takeWord_8 : decode cX3_takeWord 8 = .ok (.aload_n 0, 1) := by decide +kernel
theorem dX3_takeWord_9 : decode cX3_takeWord 9 = .ok (.getfield 52, 3) := by decide +kernel
theorem dX3_takeWord_12 : decode cX3_takeWord 12 = .ok (.iconst 1, 1) := by decide +kernel
theorem dX3_takeWord_13 : decode cX3_takeWord 13 = .ok (.if_icmp .ne 11, 3) := by decide +kernel
theorem dX3_takeWord_16 : decode cX3_takeWord 16 = .ok (.aload_n 0, 1) := by decide +kernel
theorem dX3_takeWord_17 : decode cX3_takeWord 17 = .ok (.aload_n 1, 1) := by decide +kernel
theorem dX3_takeWord_18 : decode cX3_takeWord 18 = .ok (.invokevirtual 97, 3) := by decide +kernel
theorem dX3_takeWord_21 : decode cX3_takeWord 21 = .ok (.ifCond .ne 5, 3) := by decide +kernel
theorem dX3_takeWord_24 : decode cX3_takeWord 24 = .ok (.iconst 0, 1) := by decide +kernel
theorem dX3_takeWord_25 : decode cX3_takeWord 25 = .ok (.ireturn, 1) := by decide +kernel
theorem dX3_takeWord_26 : decode cX3_takeWord 26 = .ok (.aload_n 0, 1) := by decide +kernel
theorem dX3_takeWord_27 : decode cX3_takeWord 27 = .ok (.invokevirtual 46, 3) := by decide +kernel
theorem dX3_takeWord_30 : decode cX3_takeWord 30 = .ok (.iconst 1, 1) := by decide +kernel
theorem dX3_takeWord_31 : decode cX3_takeWord 31 = .ok (.ireturn, 1) := by decide +kernel
theorem dX3_takeNumber_0 : decode cX3_takeNumber 0 = .ok (.aload_n 0, 1) := by decide +kernel
theorem dX3_takeNumber_1 : decode cX3_takeNumber 1 = .ok (.getfield 40, 3) := by decide +kernel
theorem dX3_takeNumber_4 : decode cX3_takeNumber 4 = .ok (.iconst (-1), 1) := by decide +kernel
theorem dX3_takeNumber_5 : decode cX3_takeNumber 5 = .ok (.if_icmp .ne 27, 3) := by decide +kernel
theorem dX3_takeNumber_8 : decode cX3_takeNumber 8 = .ok (.aload_n 0, 1) := by decide +kernel
theorem dX3_takeNumber_9 : decode cX3_takeNumber 9 = .ok (.getfield 52, 3) := by decide +kernel
theorem dX3_takeNumber_12 : decode cX3_takeNumber 12 = .ok (.iconst 2, 1) := by decide +kernel
theorem dX3_takeNumber_13 : decode cX3_takeNumber 13 = .ok (.if_icmp .ne 19, 3) := by decide +kernel
theorem dX3_takeNumber_16 : decode cX3_takeNumber 16 = .ok (.aload_n 0, 1) := by decide +kernel
theorem dX3_takeNumber_17 : decode cX3_takeNumber 17 = .ok (.getfield 68, 3) := by decide +kernel
theorem dX3_takeNumber_20 : decode cX3_takeNumber 20 = .ok (.iload_n 1, 1) := by decide +kernel
theorem dX3_takeNumber_21 : decode cX3_takeNumber 21 = .ok (.if_icmp .lt 11, 3) := by decide +kernel
theorem dX3_takeNumber_24 : decode cX3_takeNumber 24 = .ok (.aload_n 0, 1) := by decide +kernel
theorem dX3_takeNumber_25 : decode cX3_takeNumber 25 = .ok (.getfield 68, 3) := by decide +kernel
theorem dX3_takeNumber_28 : decode cX3_takeNumber 28 = .ok (.iload_n 2, 1) := by decide +kernel
theorem dX3_takeNumber_29 : decode cX3_takeNumber 29 = .ok (.if_icmp .le 8, 3) := by decide +kernel
theorem dX3_takeNumber_32 : decode cX3_takeNumber 32 = .ok (.aload_n 0, 1) := by decide +kernel
theorem dX3_takeNumber_33 : decode cX3_takeNumber 33 = .ok (.invokevirtual 55, 3) := by decide +kernel
theorem dX3_takeNumber_36 : decode cX3_takeNumber 36 = .ok (.ireturn, 1) := by decide +kernel
theorem dX3_takeNumber_37 : decode cX3_takeNumber 37 = .ok (.aload_n 0, 1) := by decide +kernel
theorem dX3_takeNumber_38 : decode cX3_takeNumber 38 = .ok (.getfield 68, 3) := by decide +kernel
theorem dX3_takeNumber_41 : decode cX3_takeNumber 41 = .ok (.istore_n 3, 1) := by decide +kernel
theorem dX3_takeNumber_42 : decode cX3_takeNumber 42 = .ok (.aload_n 0, 1) := by decide +kernel
theorem dX3_takeNumber_43 : decode cX3_takeNumber 43 = .ok (.invokevirtual 46, 3) := by decide +kernel
theorem dX3_takeNumber_46 : decode cX3_takeNumber 46 = .ok (.iload_n 3, 1) := by decide +kernel
theorem dX3_takeNumber_47 : decode cX3_takeNumber 47 = .ok (.ireturn, 1) := by decide +kernel
theorem dX3_refuse_0 : decode cX3_refuse 0 = .ok (.aload_n 0, 1) := by decide +kernel
theorem dX3_refuse_1 : decode cX3_refuse 1 = .ok (.getfield 40, 3) := by decide +kernel
theorem dX3_refuse_4 : decode cX3_refuse 4 = .ok (.iconst (-1), 1) := by decide +kernel
theorem dX3_refuse_5 : decode cX3_refuse 5 = .ok (.if_icmp .ne 11, 3) := by decide +kernel
theorem dX3_refuse_8 : decode cX3_refuse 8 = .ok (.aload_n 0, 1) := by decide +kernel
theorem dX3_refuse_9 : decode cX3_refuse 9 = .ok (.aload_n 0, 1) := by decide +kernel
theorem dX3_refuse_10 : decode cX3_refuse 10 = .ok (.getfield 114, 3) := by decide +kernel
theorem dX3_refuse_13 : decode cX3_refuse 13 = .ok (.putfield 40, 3) := by decide +kernel
theorem dX3_refuse_16 : decode cX3_refuse 16 = .ok (.iconst 0, 1) := by decide +kernel
theorem dX3_refuse_17 : decode cX3_refuse 17 = .ok (.ireturn, 1) := by decide +kernel
theorem dX3_isTokenText_0 : decode cX3_isTokenText 0 = .ok (.aload_n 1, 1) := by decide +kernel
theorem dX3_isTokenText_1 : decode cX3_isTokenText 1 = .ok (.invokevirtual 117, 3) := by decide +kernel
theorem dX3_isTokenText_4 : decode cX3_isTokenText 4 = .ok (.aload_n 0, 1) := by decide +kernel
theorem dX3_isTokenText_5 : decode cX3_isTokenText 5 = .ok (.getfield 43, 3) := by decide +kernel
theorem dX3_isTokenText_8 : decode cX3_isTokenText 8 = .ok (.aload_n 0, 1) := by decide +kernel
theorem dX3_isTokenText_9 : decode cX3_isTokenText 9 = .ok (.getfield 114, 3) := by decide +kernel
theorem dX3_isTokenText_12 : decode cX3_isTokenText 12 = .ok (.isub, 1) := by decide +kernel
theorem dX3_isTokenText_13 : decode cX3_isTokenText 13 = .ok (.if_icmp .eq 5, 3) := by decide +kernel
theorem dX3_isTokenText_16 : decode cX3_isTokenText 16 = .ok (.iconst 0, 1) := by decide +kernel
theorem dX3_isTokenText_17 : decode cX3_isTokenText 17 = .ok (.ireturn, 1) := by decide +kernel
theorem dX3_isTokenText_18 : decode cX3_isTokenText 18 = .ok (.iconst 0, 1) := by decide +kernel
theorem dX3_isTokenText_19 : decode cX3_isTokenText 19 = .ok (.istore_n 2, 1) := by decide +kernel
theorem dX3_isTokenText_20 : decode cX3_isTokenText 20 = .ok (.iload_n 2, 1) := by decide +kernel
theorem dX3_isTokenText_21 : decode cX3_isTokenText 21 = .ok (.aload_n 1, 1) := by decide +kernel
theorem dX3_isTokenText_22 : decode cX3_isTokenText 22 = .ok (.invokevirtual 117, 3) := by decide +kernel
theorem dX3_isTokenText_25 : decode cX3_isTokenText 25 = .ok (.if_icmp .ge 30, 3) := by decide +kernel
theorem dX3_isTokenText_28 : decode cX3_isTokenText 28 = .ok (.aload_n 0, 1) := by decide +kernel
theorem dX3_isTokenText_29 : decode cX3_isTokenText 29 = .ok (.getfield 11, 3) := by decide +kernel
theorem dX3_isTokenText_32 : decode cX3_isTokenText 32 = .ok (.aload_n 0, 1) := by decide +kernel
theorem dX3_isTokenText_33 : decode cX3_isTokenText 33 = .ok (.getfield 114, 3) := by decide +kernel
theorem dX3_isTokenText_36 : decode cX3_isTokenText 36 = .ok (.iload_n 2, 1) := by decide +kernel
theorem dX3_isTokenText_37 : decode cX3_isTokenText 37 = .ok (.iadd, 1) := by decide +kernel
theorem dX3_isTokenText_38 : decode cX3_isTokenText 38 = .ok (.iaload, 1) := by decide +kernel
theorem dX3_isTokenText_39 : decode cX3_isTokenText 39 = .ok (.aload_n 1, 1) := by decide +kernel
theorem dX3_isTokenText_40 : decode cX3_isTokenText 40 = .ok (.iload_n 2, 1) := by decide +kernel
theorem dX3_isTokenText_41 : decode cX3_isTokenText 41 = .ok (.invokevirtual 122, 3) := by decide +kernel
theorem dX3_isTokenText_44 : decode cX3_isTokenText 44 = .ok (.if_icmp .eq 5, 3) := by decide +kernel
theorem dX3_isTokenText_47 : decode cX3_isTokenText 47 = .ok (.iconst 0, 1) := by decide +kernel
theorem dX3_isTokenText_48 : decode cX3_isTokenText 48 = .ok (.ireturn, 1) := by decide +kernel
theorem dX3_isTokenText_49 : decode cX3_isTokenText 49 = .ok (.iinc 2 1, 3) := by decide +kernel
theorem dX3_isTokenText_52 : decode cX3_isTokenText 52 = .ok (.goto (-32), 3) := by decide +kernel
theorem dX3_isTokenText_55 : decode cX3_isTokenText 55 = .ok (.iconst 1, 1) := by decide +kernel
theorem dX3_isTokenText_56 : decode cX3_isTokenText 56 = .ok (.ireturn, 1) := by decide +kernel
theorem dX3_advance_0 : decode cX3_advance 0 = .ok (.aload_n 0, 1) := by decide +kernel
theorem dX3_advance_1 : decode cX3_advance 1 = .ok (.aload_n 0, 1) := by decide +kernel
theorem dX3_advance_2 : decode cX3_advance 2 = .ok (.getfield 43, 3) := by decide +kernel
theorem dX3_advance_5 : decode cX3_advance 5 = .ok (.putfield 114, 3) := by decide +kernel
theorem dX3_advance_8 : decode cX3_advance 8 = .ok (.aload_n 0, 1) := by decide +kernel
theorem dX3_advance_9 : decode cX3_advance 9 = .ok (.getfield 114, 3) := by decide +kernel
theorem dX3_advance_12 : decode cX3_advance 12 = .ok (.aload_n 0, 1) := by decide +kernel
theorem dX3_advance_13 : decode cX3_advance 13 = .ok (.getfield 21, 3) := by decide +kernel
theorem dX3_advance_16 : decode cX3_advance 16 = .ok (.if_icmp .ge 30, 3) := by decide +kernel
theorem dX3_advance_19 : decode cX3_advance 19 = .ok (.aload_n 0, 1) := by decide +kernel
theorem dX3_advance_20 : decode cX3_advance 20 = .ok (.getfield 11, 3) := by decide +kernel
theorem dX3_advance_23 : decode cX3_advance 23 = .ok (.aload_n 0, 1) := by decide +kernel
theorem dX3_advance_24 : decode cX3_advance 24 = .ok (.getfield 114, 3) := by decide +kernel
theorem dX3_advance_27 : decode cX3_advance 27 = .ok (.iaload, 1) := by decide +kernel
theorem dX3_advance_28 : decode cX3_advance 28 = .ok (.bipush 32, 2) := by decide +kernel
theorem dX3_advance_30 : decode cX3_advance 30 = .ok (.if_icmp .ne 16, 3) := by decide +kernel
theorem dX3_advance_33 : decode cX3_advance 33 = .ok (.aload_n 0, 1) := by decide +kernel
theorem dX3_advance_34 : decode cX3_advance 34 = .ok (.dup, 1) := by decide +kernel
theorem dX3_advance_35 : decode cX3_advance 35 = .ok (.getfield 114, 3) := by decide +kernel
theorem dX3_advance_38 : decode cX3_advance 38 = .ok (.iconst 1, 1) := by decide +kernel
theorem dX3_advance_39 : decode cX3_advance 39 = .ok (.iadd, 1) := by decide +kernel
theorem dX3_advance_40 : decode cX3_advance 40 = .ok (.putfield 114, 3) := by decide +kernel
theorem dX3_advance_43 : decode cX3_advance 43 = .ok (.goto (-35), 3) := by decide +kernel
theorem dX3_advance_46 : decode cX3_advance 46 = .ok (.aload_n 0, 1) := by decide +kernel
theorem dX3_advance_47 : decode cX3_advance 47 = .ok (.aload_n 0, 1) := by decide +kernel
theorem dX3_advance_48 : decode cX3_advance 48 = .ok (.aload_n 0, 1) := by decide +kernel
theorem dX3_advance_49 : decode cX3_advance 49 = .ok (.getfield 114, 3) := by decide +kernel
theorem dX3_advance_52 : decode cX3_advance 52 = .ok (.invokevirtual 126, 3) := by decide +kernel
theorem dX3_advance_55 : decode cX3_advance 55 = .ok (.putfield 52, 3) := by decide +kernel
theorem dX3_advance_58 : decode cX3_advance 58 = .ok (.aload_n 0, 1) := by decide +kernel
theorem dX3_advance_59 : decode cX3_advance 59 = .ok (.iconst 0, 1) := by decide +kernel
theorem dX3_advance_60 : decode cX3_advance 60 = .ok (.putfield 68, 3) := by decide +kernel
theorem dX3_advance_63 : decode cX3_advance 63 = .ok (.aload_n 0, 1) := by decide +kernel
theorem dX3_advance_64 : decode cX3_advance 64 = .ok (.aload_n 0, 1) := by decide +kernel
theorem dX3_advance_65 : decode cX3_advance 65 = .ok (.getfield 114, 3) := by decide +kernel
theorem dX3_advance_68 : decode cX3_advance 68 = .ok (.putfield 43, 3) := by decide +kernel
theorem dX3_advance_71 : decode cX3_advance 71 = .ok (.aload_n 0, 1) := by decide +kernel
theorem dX3_advance_72 : decode cX3_advance 72 = .ok (.getfield 52, 3) := by decide +kernel
theorem dX3_advance_75 : decode cX3_advance 75 = .ok (.iconst 1, 1) := by decide +kernel
theorem dX3_advance_76 : decode cX3_advance 76 = .ok (.if_icmp .eq 11, 3) := by decide +kernel
theorem dX3_advance_79 : decode cX3_advance 79 = .ok (.aload_n 0, 1) := by decide +kernel
theorem dX3_advance_80 : decode cX3_advance 80 = .ok (.getfield 52, 3) := by decide +kernel
theorem dX3_advance_83 : decode cX3_advance 83 = .ok (.iconst 2, 1) := by decide +kernel
theorem dX3_advance_84 : decode cX3_advance 84 = .ok (.if_icmp .ne 7, 3) := by decide +kernel
theorem dX3_advance_87 : decode cX3_advance 87 = .ok (.iconst 1, 1) := by decide +kernel
theorem dX3_advance_88 : decode cX3_advance 88 = .ok (.goto 4, 3) := by decide +kernel
theorem dX3_advance_91 : decode cX3_advance 91 = .ok (.iconst 0, 1) := by decide +kernel
theorem dX3_advance_92 : decode cX3_advance 92 = .ok (.istore_n 1, 1) := by decide +kernel
theorem dX3_advance_93 : decode cX3_advance 93 = .ok (.aload_n 0, 1) := by decide +kernel
theorem dX3_advance_94 : decode cX3_advance 94 = .ok (.getfield 43, 3) := by decide +kernel
theorem dX3_advance_97 : decode cX3_advance 97 = .ok (.aload_n 0, 1) := by decide +kernel
theorem dX3_advance_98 : decode cX3_advance 98 = .ok (.getfield 21, 3) := by decide +kernel
theorem dX3_advance_101 : decode cX3_advance 101 = .ok (.if_icmp .ge 84, 3) := by decide +kernel
theorem dX3_advance_104 : decode cX3_advance 104 = .ok (.aload_n 0, 1) := by decide +kernel
theorem dX3_advance_105 : decode cX3_advance 105 = .ok (.aload_n 0, 1) := by decide +kernel
theorem dX3_advance_106 : decode cX3_advance 106 = .ok (.getfield 43, 3) := by decide +kernel
theorem dX3_advance_109 : decode cX3_advance 109 = .ok (.invokevirtual 126, 3) := by decide +kernel
theorem dX3_advance_112 : decode cX3_advance 112 = .ok (.aload_n 0, 1) := by decide +kernel
theorem dX3_advance_113 : decode cX3_advance 113 = .ok (.getfield 52, 3) := by decide +kernel
theorem dX3_advance_116 : decode cX3_advance 116 = .ok (.if_icmp .ne 69, 3) := by decide +kernel
theorem dX3_advance_119 : decode cX3_advance 119 = .ok (.iload_n 1, 1) := by decide +kernel
theorem dX3_advance_120 : decode cX3_advance 120 = .ok (.ifCond .ne 14, 3) := by decide +kernel
theorem dX3_advance_123 : decode cX3_advance 123 = .ok (.aload_n 0, 1) := by decide +kernel
theorem dX3_advance_124 : decode cX3_advance 124 = .ok (.getfield 43, 3) := by decide +kernel
theorem dX3_advance_127 : decode cX3_advance 127 = .ok (.aload_n 0, 1) := by decide +kernel
theorem dX3_advance_128 : decode cX3_advance 128 = .ok (.getfield 114, 3) := by decide +kernel
theorem dX3_advance_131 : decode cX3_advance 131 = .ok (.if_icmp .ne 54, 3) := by decide +kernel
theorem dX3_advance_134 : decode cX3_advance 134 = .ok (.aload_n 0, 1) := by decide +kernel
theorem dX3_advance_135 : decode cX3_advance 135 = .ok (.getfield 52, 3) := by decide +kernel
theorem dX3_advance_138 : decode cX3_advance 138 = .ok (.iconst 2, 1) := by decide +kernel
theorem dX3_advance_139 : decode cX3_advance 139 = .ok (.if_icmp .ne 33, 3) := by decide +kernel
theorem dX3_advance_142 : decode cX3_advance 142 = .ok (.aload_n 0, 1) := by decide +kernel
theorem dX3_advance_143 : decode cX3_advance 143 = .ok (.aload_n 0, 1) := by decide +kernel
theorem dX3_advance_144 : decode cX3_advance 144 = .ok (.getfield 68, 3) := by decide +kernel
theorem dX3_advance_147 : decode cX3_advance 147 = .ok (.bipush 10, 2) := by decide +kernel
theorem dX3_advance_149 : decode cX3_advance 149 = .ok (.imul, 1) := by decide +kernel
theorem dX3_advance_150 : decode cX3_advance 150 = .ok (.aload_n 0, 1) := by decide +kernel
theorem dX3_advance_151 : decode cX3_advance 151 = .ok (.getfield 11, 3) := by decide +kernel
theorem dX3_advance_154 : decode cX3_advance 154 = .ok (.aload_n 0, 1) := by decide +kernel
theorem dX3_advance_155 : decode cX3_advance 155 = .ok (.getfield 43, 3) := by decide +kernel
theorem dX3_advance_158 : decode cX3_advance 158 = .ok (.iaload, 1) := by decide +kernel
theorem dX3_advance_159 : decode cX3_advance 159 = .ok (.iadd, 1) := by decide +kernel
theorem dX3_advance_160 : decode cX3_advance 160 = .ok (.bipush 48, 2) := by decide +kernel
theorem dX3_advance_162 : decode cX3_advance 162 = .ok (.isub, 1) := by decide +kernel
theorem dX3_advance_163 : decode cX3_advance 163 = .ok (.sipush 10000, 3) := by decide +kernel
theorem dX3_advance_166 : decode cX3_advance 166 = .ok (.invokestatic 129, 3) := by decide +kernel
theorem dX3_advance_169 : decode cX3_advance 169 = .ok (.putfield 68, 3) := by decide +kernel
theorem dX3_advance_172 : decode cX3_advance 172 = .ok (.aload_n 0, 1) := by decide +kernel
theorem dX3_advance_173 : decode cX3_advance 173 = .ok (.dup, 1) := by decide +kernel
theorem dX3_advance_174 : decode cX3_advance 174 = .ok (.getfield 43, 3) := by decide +kernel
theorem dX3_advance_177 : decode cX3_advance 177 = .ok (.iconst 1, 1) := by decide +kernel
theorem dX3_advance_178 : decode cX3_advance 178 = .ok (.iadd, 1) := by decide +kernel
theorem dX3_advance_179 : decode cX3_advance 179 = .ok (.putfield 43, 3) := by decide +kernel
theorem dX3_advance_182 : decode cX3_advance 182 = .ok (.goto (-89), 3) := by decide +kernel
theorem dX3_advance_185 : decode cX3_advance 185 = .ok (.return_, 1) := by decide +kernel
theorem dX3_sortAt_0 : decode cX3_sortAt 0 = .ok (.iload_n 1, 1) := by decide +kernel
theorem dX3_sortAt_1 : decode cX3_sortAt 1 = .ok (.aload_n 0, 1) := by decide +kernel
theorem dX3_sortAt_2 : decode cX3_sortAt 2 = .ok (.getfield 21, 3) := by decide +kernel
theorem dX3_sortAt_5 : decode cX3_sortAt 5 = .ok (.if_icmp .lt 5, 3) := by decide +kernel
theorem dX3_sortAt_8 : decode cX3_sortAt 8 = .ok (.iconst 0, 1) := by decide +kernel
theorem dX3_sortAt_9 : decode cX3_sortAt 9 = .ok (.ireturn, 1) := by decide +kernel
theorem dX3_sortAt_10 : decode cX3_sortAt 10 = .ok (.aload_n 0, 1) := by decide +kernel
theorem dX3_sortAt_11 : decode cX3_sortAt 11 = .ok (.getfield 11, 3) := by decide +kernel
theorem dX3_sortAt_14 : decode cX3_sortAt 14 = .ok (.iload_n 1, 1) := by decide +kernel
theorem dX3_sortAt_15 : decode cX3_sortAt 15 = .ok (.iaload, 1) := by decide +kernel
theorem dX3_sortAt_16 : decode cX3_sortAt 16 = .ok (.istore_n 2, 1) := by decide +kernel
theorem dX3_sortAt_17 : decode cX3_sortAt 17 = .ok (.iload_n 2, 1) := by decide +kernel
theorem dX3_sortAt_18 : decode cX3_sortAt 18 = .ok (.bipush 97, 2) := by decide +kernel
theorem dX3_sortAt_20 : decode cX3_sortAt 20 = .ok (.if_icmp .lt 11, 3) := by decide +kernel
theorem dX3_sortAt_23 : decode cX3_sortAt 23 = .ok (.iload_n 2, 1) := by decide +kernel
theorem dX3_sortAt_24 : decode cX3_sortAt 24 = .ok (.bipush 122, 2) := by decide +kernel
theorem dX3_sortAt_26 : decode cX3_sortAt 26 = .ok (.if_icmp .gt 5, 3) := by decide +kernel
theorem dX3_sortAt_29 : decode cX3_sortAt 29 = .ok (.iconst 1, 1) := by decide +kernel
theorem dX3_sortAt_30 : decode cX3_sortAt 30 = .ok (.ireturn, 1) := by decide +kernel
theorem dX3_sortAt_31 : decode cX3_sortAt 31 = .ok (.iload_n 2, 1) := by decide +kernel
theorem dX3_sortAt_32 : decode cX3_sortAt 32 = .ok (.bipush 48, 2) := by decide +kernel
theorem dX3_sortAt_34 : decode cX3_sortAt 34 = .ok (.if_icmp .lt 11, 3) := by decide +kernel
theorem dX3_sortAt_37 : decode cX3_sortAt 37 = .ok (.iload_n 2, 1) := by decide +kernel
theorem dX3_sortAt_38 : decode cX3_sortAt 38 = .ok (.bipush 57, 2) := by decide +kernel
theorem dX3_sortAt_40 : decode cX3_sortAt 40 = .ok (.if_icmp .gt 5, 3) := by decide +kernel
theorem dX3_sortAt_43 : decode cX3_sortAt 43 = .ok (.iconst 2, 1) := by decide +kernel
theorem dX3_sortAt_44 : decode cX3_sortAt 44 = .ok (.ireturn, 1) := by decide +kernel
theorem dX3_sortAt_45 : decode cX3_sortAt 45 = .ok (.iload_n 2, 1) := by decide +kernel
theorem dX3_sortAt_46 : decode cX3_sortAt 46 = .ok (.bipush 59, 2) := by decide +kernel
theorem dX3_sortAt_48 : decode cX3_sortAt 48 = .ok (.if_icmp .ne 7, 3) := by decide +kernel
theorem dX3_sortAt_51 : decode cX3_sortAt 51 = .ok (.iconst 3, 1) := by decide +kernel
theorem dX3_sortAt_52 : decode cX3_sortAt 52 = .ok (.goto 4, 3) := by decide +kernel
theorem dX3_sortAt_55 : decode cX3_sortAt 55 = .ok (.iconst 4, 1) := by decide +kernel
theorem dX3_sortAt_56 : decode cX3_sortAt 56 = .ok (.ireturn, 1) := by decide +kernel
theorem dX4_init_0 : decode cX4_init 0 = .ok (.aload_n 0, 1) := by decide +kernel
theorem dX4_init_1 : decode cX4_init 1 = .ok (.invokespecial 1, 3) := by decide +kernel
theorem dX4_init_4 : decode cX4_init 4 = .ok (.aload_n 0, 1) := by decide +kernel
theorem dX4_init_5 : decode cX4_init 5 = .ok (.iconst 4, 1) := by decide +kernel
theorem dX4_init_6 : decode cX4_init 6 = .ok (.newarray .int, 2) := by decide +kernel
theorem dX4_init_8 : decode cX4_init 8 = .ok (.putfield 9, 3) := by decide +kernel
theorem dX4_init_11 : decode cX4_init 11 = .ok (.aload_n 0, 1) := by decide +kernel
theorem dX4_init_12 : decode cX4_init 12 = .ok (.iconst 4, 1) := by decide +kernel
theorem dX4_init_13 : decode cX4_init 13 = .ok (.newarray .int, 2) := by decide +kernel
theorem dX4_init_15 : decode cX4_init 15 = .ok (.putfield 13, 3) := by decide +kernel
theorem dX4_init_18 : decode cX4_init 18 = .ok (.aload_n 0, 1) := by decide +kernel
theorem dX4_init_19 : decode cX4_init 19 = .ok (.sipush 160, 3) := by decide +kernel
theorem dX4_init_22 : decode cX4_init 22 = .ok (.newarray .int, 2) := by decide +kernel
theorem dX4_init_24 : decode cX4_init 24 = .ok (.putfield 16, 3) := by decide +kernel
theorem dX4_init_27 : decode cX4_init 27 = .ok (.return_, 1) := by decide +kernel
theorem dX4_isSheet_0 : decode cX4_isSheet 0 = .ok (.iload_n 0, 1) := by decide +kernel
theorem dX4_isSheet_1 : decode cX4_isSheet 1 = .ok (.ifCond .lt 12, 3) := by decide +kernel
theorem dX4_isSheet_4 : decode cX4_isSheet 4 = .ok (.iload_n 0, 1) := by decide +kernel
theorem dX4_isSheet_5 : decode cX4_isSheet 5 = .ok (.iconst 4, 1) := by decide +kernel
theorem dX4_isSheet_6 : decode cX4_isSheet 6 = .ok (.if_icmp .ge 7, 3) := by decide +kernel
theorem dX4_isSheet_9 : decode cX4_isSheet 9 = .ok (.iconst 1, 1) := by decide +kernel
theorem dX4_isSheet_10 : decode cX4_isSheet 10 = .ok (.goto 4, 3) := by decide +kernel
theorem dX4_isSheet_13 : decode cX4_isSheet 13 = .ok (.iconst 0, 1) := by decide +kernel
theorem dX4_isSheet_14 : decode cX4_isSheet 14 = .ok (.ireturn, 1) := by decide +kernel
theorem dX4_areBits_0 : decode cX4_areBits 0 = .ok (.iload_n 0, 1) := by decide +kernel
theorem dX4_areBits_1 : decode cX4_areBits 1 = .ok (.ifCond .eq 21, 3) := by decide +kernel
theorem dX4_areBits_4 : decode cX4_areBits 4 = .ok (.iload_n 0, 1) := by decide +kernel
theorem dX4_areBits_5 : decode cX4_areBits 5 = .ok (.bipush 8, 2) := by decide +kernel
theorem dX4_areBits_7 : decode cX4_areBits 7 = .ok (.if_icmp .eq 15, 3) := by decide +kernel
theorem dX4_areBits_10 : decode cX4_areBits 10 = .ok (.iload_n 0, 1) := by decide +kernel
theorem dX4_areBits_11 : decode cX4_areBits 11 = .ok (.bipush 16, 2) := by decide +kernel
theorem dX4_areBits_13 : decode cX4_areBits 13 = .ok (.if_icmp .eq 9, 3) := by decide +kernel
theorem dX4_areBits_16 : decode cX4_areBits 16 = .ok (.iload_n 0, 1) := by decide +kernel
theorem dX4_areBits_17 : decode cX4_areBits 17 = .ok (.bipush 32, 2) := by decide +kernel
theorem dX4_areBits_19 : decode cX4_areBits 19 = .ok (.if_icmp .ne 7, 3) := by decide +kernel
theorem dX4_areBits_22 : decode cX4_areBits 22 = .ok (.iconst 1, 1) := by decide +kernel
theorem dX4_areBits_23 : decode cX4_areBits 23 = .ok (.goto 4, 3) := by decide +kernel
theorem dX4_areBits_26 : decode cX4_areBits 26 = .ok (.iconst 0, 1) := by decide +kernel
theorem dX4_areBits_27 : decode cX4_areBits 27 = .ok (.ireturn, 1) := by decide +kernel
theorem dX4_isMissing_0 : decode cX4_isMissing 0 = .ok (.aload_n 0, 1) := by decide +kernel
theorem dX4_isMissing_1 : decode cX4_isMissing 1 = .ok (.getfield 9, 3) := by decide +kernel
theorem dX4_isMissing_4 : decode cX4_isMissing 4 = .ok (.iload_n 1, 1) := by decide +kernel
theorem dX4_isMissing_5 : decode cX4_isMissing 5 = .ok (.iaload, 1) := by decide +kernel
theorem dX4_isMissing_6 : decode cX4_isMissing 6 = .ok (.ifCond .ne 7, 3) := by decide +kernel
theorem dX4_isMissing_9 : decode cX4_isMissing 9 = .ok (.iconst 1, 1) := by decide +kernel
theorem dX4_isMissing_10 : decode cX4_isMissing 10 = .ok (.goto 4, 3) := by decide +kernel
theorem dX4_isMissing_13 : decode cX4_isMissing 13 = .ok (.iconst 0, 1) := by decide +kernel
theorem dX4_isMissing_14 : decode cX4_isMissing 14 = .ok (.ireturn, 1) := by decide +kernel
theorem dX4_bitsOf_0 : decode cX4_bitsOf 0 = .ok (.aload_n 0, 1) := by decide +kernel
theorem dX4_bitsOf_1 : decode cX4_bitsOf 1 = .ok (.getfield 9, 3) := by decide +kernel
theorem dX4_bitsOf_4 : decode cX4_bitsOf 4 = .ok (.iload_n 1, 1) := by decide +kernel
theorem dX4_bitsOf_5 : decode cX4_bitsOf 5 = .ok (.iaload, 1) := by decide +kernel
theorem dX4_bitsOf_6 : decode cX4_bitsOf 6 = .ok (.ireturn, 1) := by decide +kernel
theorem dX4_size_0 : decode cX4_size 0 = .ok (.aload_n 0, 1) := by decide +kernel
theorem dX4_size_1 : decode cX4_size 1 = .ok (.getfield 13, 3) := by decide +kernel
theorem dX4_size_4 : decode cX4_size 4 = .ok (.iload_n 1, 1) := by decide +kernel
theorem dX4_size_5 : decode cX4_size 5 = .ok (.iaload, 1) := by decide +kernel
theorem dX4_size_6 : decode cX4_size 6 = .ok (.ireturn, 1) := by decide +kernel
theorem dX4_lay_0 : decode cX4_lay 0 = .ok (.aload_n 0, 1) := by decide +kernel
theorem dX4_lay_1 : decode cX4_lay 1 = .ok (.getfield 9, 3) := by decide +kernel
theorem dX4_lay_4 : decode cX4_lay 4 = .ok (.iload_n 1, 1) := by decide +kernel
theorem dX4_lay_5 : decode cX4_lay 5 = .ok (.iload_n 2, 1) := by decide +kernel
theorem dX4_lay_6 : decode cX4_lay 6 = .ok (.iastore, 1) := by decide +kernel
theorem dX4_lay_7 : decode cX4_lay 7 = .ok (.aload_n 0, 1) := by decide +kernel
theorem dX4_lay_8 : decode cX4_lay 8 = .ok (.getfield 13, 3) := by decide +kernel
theorem dX4_lay_11 : decode cX4_lay 11 = .ok (.iload_n 1, 1) := by decide +kernel
theorem dX4_lay_12 : decode cX4_lay 12 = .ok (.iload_n 2, 1) := by decide +kernel
theorem dX4_lay_13 : decode cX4_lay 13 = .ok (.ifCond .ne 7, 3) := by decide +kernel
theorem dX4_lay_16 : decode cX4_lay 16 = .ok (.iconst 0, 1) := by decide +kernel
theorem dX4_lay_17 : decode cX4_lay 17 = .ok (.goto 4, 3) := by decide +kernel
theorem dX4_lay_20 : decode cX4_lay 20 = .ok (.iload_n 3, 1) := by decide +kernel
theorem dX4_lay_21 : decode cX4_lay 21 = .ok (.iastore, 1) := by decide +kernel
theorem dX4_lay_22 : decode cX4_lay 22 = .ok (.iconst 0, 1) := by decide +kernel
theorem dX4_lay_23 : decode cX4_lay 23 = .ok (.istore 4, 2) := by decide +kernel
theorem dX4_lay_25 : decode cX4_lay 25 = .ok (.iload 4, 2) := by decide +kernel
theorem dX4_lay_27 : decode cX4_lay 27 = .ok (.bipush 40, 2) := by decide +kernel
theorem dX4_lay_29 : decode cX4_lay 29 = .ok (.if_icmp .ge 22, 3) := by decide +kernel
theorem dX4_lay_32 : decode cX4_lay 32 = .ok (.aload_n 0, 1) := by decide +kernel
theorem dX4_lay_33 : decode cX4_lay 33 = .ok (.getfield 16, 3) := by decide +kernel
theorem dX4_lay_36 : decode cX4_lay 36 = .ok (.iload_n 1, 1) := by decide +kernel
theorem dX4_lay_37 : decode cX4_lay 37 = .ok (.bipush 40, 2) := by decide +kernel
theorem dX4_lay_39 : decode cX4_lay 39 = .ok (.imul, 1) := by decide +kernel
theorem dX4_lay_40 : decode cX4_lay 40 = .ok (.iload 4, 2) := by decide +kernel
theorem dX4_lay_42 : decode cX4_lay 42 = .ok (.iadd, 1) := by decide +kernel
theorem dX4_lay_43 : decode cX4_lay 43 = .ok (.iconst 0, 1) := by decide +kernel
theorem dX4_lay_44 : decode cX4_lay 44 = .ok (.iastore, 1) := by decide +kernel
theorem dX4_lay_45 : decode cX4_lay 45 = .ok (.iinc 4 1, 3) := by decide +kernel
theorem dX4_lay_48 : decode cX4_lay 48 = .ok (.goto (-23), 3) := by decide +kernel
theorem dX4_lay_51 : decode cX4_lay 51 = .ok (.return_, 1) := by decide +kernel
theorem dX4_get_0 : decode cX4_get 0 = .ok (.aload_n 0, 1) := by decide +kernel
theorem dX4_get_1 : decode cX4_get 1 = .ok (.getfield 16, 3) := by decide +kernel
theorem dX4_get_4 : decode cX4_get 4 = .ok (.iload_n 1, 1) := by decide +kernel
theorem dX4_get_5 : decode cX4_get 5 = .ok (.bipush 40, 2) := by decide +kernel
theorem dX4_get_7 : decode cX4_get 7 = .ok (.imul, 1) := by decide +kernel
theorem dX4_get_8 : decode cX4_get 8 = .ok (.iload_n 2, 1) := by decide +kernel
theorem dX4_get_9 : decode cX4_get 9 = .ok (.iadd, 1) := by decide +kernel
theorem dX4_get_10 : decode cX4_get 10 = .ok (.iaload, 1) := by decide +kernel
theorem dX4_get_11 : decode cX4_get 11 = .ok (.ireturn, 1) := by decide +kernel
theorem dX4_set_0 : decode cX4_set 0 = .ok (.iload_n 3, 1) := by decide +kernel
theorem dX4_set_1 : decode cX4_set 1 = .ok (.istore 4, 2) := by decide +kernel
theorem dX4_set_3 : decode cX4_set 3 = .ok (.aload_n 0, 1) := by decide +kernel
theorem dX4_set_4 : decode cX4_set 4 = .ok (.getfield 9, 3) := by decide +kernel
theorem dX4_set_7 : decode cX4_set 7 = .ok (.iload_n 1, 1) := by decide +kernel
theorem dX4_set_8 : decode cX4_set 8 = .ok (.iaload, 1) := by decide +kernel
theorem dX4_set_9 : decode cX4_set 9 = .ok (.bipush 8, 2) := by decide +kernel
theorem dX4_set_11 : decode cX4_set 11 = .ok (.if_icmp .ne 10, 3) := by decide +kernel
theorem dX4_set_14 : decode cX4_set 14 = .ok (.iload_n 3, 1) := by decide +kernel
theorem dX4_set_15 : decode cX4_set 15 = .ok (.i2b, 1) := by decide +kernel
theorem dX4_set_16 : decode cX4_set 16 = .ok (.istore 4, 2) := by decide +kernel
theorem dX4_set_18 : decode cX4_set 18 = .ok (.goto 18, 3) := by decide +kernel
theorem dX4_set_21 : decode cX4_set 21 = .ok (.aload_n 0, 1) := by decide +kernel
theorem dX4_set_22 : decode cX4_set 22 = .ok (.getfield 9, 3) := by decide +kernel
theorem dX4_set_25 : decode cX4_set 25 = .ok (.iload_n 1, 1) := by decide +kernel
theorem dX4_set_26 : decode cX4_set 26 = .ok (.iaload, 1) := by decide +kernel
theorem dX4_set_27 : decode cX4_set 27 = .ok (.bipush 16, 2) := by decide +kernel
theorem dX4_set_29 : decode cX4_set 29 = .ok (.if_icmp .ne 7, 3) := by decide +kernel
theorem dX4_set_32 : decode cX4_set 32 = .ok (.iload_n 3, 1) := by decide +kernel
theorem dX4_set_33 : decode cX4_set 33 = .ok (.i2s, 1) := by decide +kernel
theorem dX4_set_34 : decode cX4_set 34 = .ok (.istore 4, 2) := by decide +kernel
theorem dX4_set_36 : decode cX4_set 36 = .ok (.aload_n 0, 1) := by decide +kernel
theorem dX4_set_37 : decode cX4_set 37 = .ok (.getfield 16, 3) := by decide +kernel
theorem dX4_set_40 : decode cX4_set 40 = .ok (.iload_n 1, 1) := by decide +kernel
theorem dX4_set_41 : decode cX4_set 41 = .ok (.bipush 40, 2) := by decide +kernel
theorem dX4_set_43 : decode cX4_set 43 = .ok (.imul, 1) := by decide +kernel
theorem dX4_set_44 : decode cX4_set 44 = .ok (.iload_n 2, 1) := by decide +kernel
theorem dX4_set_45 : decode cX4_set 45 = .ok (.iadd, 1) := by decide +kernel
theorem dX4_set_46 : decode cX4_set 46 = .ok (.iload 4, 2) := by decide +kernel
theorem dX4_set_48 : decode cX4_set 48 = .ok (.iastore, 1) := by decide +kernel
theorem dX4_set_49 : decode cX4_set 49 = .ok (.return_, 1) := by decide +kernel
theorem dX4_hasPart_0 : decode cX4_hasPart 0 = .ok (.iload_n 2, 1) := by decide +kernel
theorem dX4_hasPart_1 : decode cX4_hasPart 1 = .ok (.ifCond .lt 23, 3) := by decide +kernel
theorem dX4_hasPart_4 : decode cX4_hasPart 4 = .ok (.iload_n 3, 1) := by decide +kernel
theorem dX4_hasPart_5 : decode cX4_hasPart 5 = .ok (.ifCond .lt 19, 3) := by decide +kernel
theorem dX4_hasPart_8 : decode cX4_hasPart 8 = .ok (.iload_n 3, 1) := by decide +kernel
theorem dX4_hasPart_9 : decode cX4_hasPart 9 = .ok (.aload_n 0, 1) := by decide +kernel
theorem dX4_hasPart_10 : decode cX4_hasPart 10 = .ok (.getfield 13, 3) := by decide +kernel
theorem dX4_hasPart_13 : decode cX4_hasPart 13 = .ok (.iload_n 1, 1) := by decide +kernel
theorem dX4_hasPart_14 : decode cX4_hasPart 14 = .ok (.iaload, 1) := by decide +kernel
theorem dX4_hasPart_15 : decode cX4_hasPart 15 = .ok (.iload_n 2, 1) := by decide +kernel
theorem dX4_hasPart_16 : decode cX4_hasPart 16 = .ok (.isub, 1) := by decide +kernel
theorem dX4_hasPart_17 : decode cX4_hasPart 17 = .ok (.if_icmp .gt 7, 3) := by decide +kernel
theorem dX4_hasPart_20 : decode cX4_hasPart 20 = .ok (.iconst 1, 1) := by decide +kernel
theorem dX4_hasPart_21 : decode cX4_hasPart 21 = .ok (.goto 4, 3) := by decide +kernel
theorem dX4_hasPart_24 : decode cX4_hasPart 24 = .ok (.iconst 0, 1) := by decide +kernel
theorem dX4_hasPart_25 : decode cX4_hasPart 25 = .ok (.ireturn, 1) := by decide +kernel
theorem dX4_move_0 : decode cX4_move 0 = .ok (.aload_n 0, 1) := by decide +kernel
theorem dX4_move_1 : decode cX4_move 1 = .ok (.getfield 16, 3) := by decide +kernel
theorem dX4_move_4 : decode cX4_move 4 = .ok (.iload_n 1, 1) := by decide +kernel
theorem dX4_move_5 : decode cX4_move 5 = .ok (.bipush 40, 2) := by decide +kernel
theorem dX4_move_7 : decode cX4_move 7 = .ok (.imul, 1) := by decide +kernel
theorem dX4_move_8 : decode cX4_move 8 = .ok (.iload_n 2, 1) := by decide +kernel
theorem dX4_move_9 : decode cX4_move 9 = .ok (.iadd, 1) := by decide +kernel
theorem dX4_move_10 : decode cX4_move 10 = .ok (.aload_n 0, 1) := by decide +kernel
theorem dX4_move_11 : decode cX4_move 11 = .ok (.getfield 16, 3) := by decide +kernel
theorem dX4_move_14 : decode cX4_move 14 = .ok (.iload_n 3, 1) := by decide +kernel
theorem dX4_move_15 : decode cX4_move 15 = .ok (.bipush 40, 2) := by decide +kernel
theorem dX4_move_17 : decode cX4_move 17 = .ok (.imul, 1) := by decide +kernel
theorem dX4_move_18 : decode cX4_move 18 = .ok (.iload 4, 2) := by decide +kernel
theorem dX4_move_20 : decode cX4_move 20 = .ok (.iadd, 1) := by decide +kernel
theorem dX4_move_21 : decode cX4_move 21 = .ok (.iload 5, 2) := by decide +kernel
theorem dX4_move_23 : decode cX4_move 23 = .ok (.invokestatic 19, 3) := by decide +kernel
theorem dX4_move_26 : decode cX4_move 26 = .ok (.return_, 1) := by decide +kernel
theorem dX5_init_0 : decode cX5_init 0 = .ok (.aload_n 0, 1) := by decide +kernel
theorem dX5_init_1 : decode cX5_init 1 = .ok (.invokespecial 3, 3) := by decide +kernel
theorem dX5_init_4 : decode cX5_init 4 = .ok (.aload_n 0, 1) := by decide +kernel
theorem dX5_init_5 : decode cX5_init 5 = .ok (.sipush 240, 3) := by decide +kernel
theorem dX5_init_8 : decode cX5_init 8 = .ok (.newarray .int, 2) := by decide +kernel
theorem dX5_init_10 : decode cX5_init 10 = .ok (.putfield 11, 3) := by decide +kernel
theorem dX5_init_13 : decode cX5_init 13 = .ok (.return_, 1) := by decide +kernel
theorem dX5_size_0 : decode cX5_size 0 = .ok (.aload_n 0, 1) := by decide +kernel
theorem dX5_size_1 : decode cX5_size 1 = .ok (.getfield 15, 3) := by decide +kernel
theorem dX5_size_4 : decode cX5_size 4 = .ok (.ireturn, 1) := by decide +kernel
theorem dX5_hasRoom_0 : decode cX5_hasRoom 0 = .ok (.aload_n 0, 1) := by decide +kernel
theorem dX5_hasRoom_1 : decode cX5_hasRoom 1 = .ok (.getfield 15, 3) := by decide +kernel
theorem dX5_hasRoom_4 : decode cX5_hasRoom 4 = .ok (.bipush 60, 2) := by decide +kernel
theorem dX5_hasRoom_6 : decode cX5_hasRoom 6 = .ok (.if_icmp .ge 7, 3) := by decide +kernel
theorem dX5_hasRoom_9 : decode cX5_hasRoom 9 = .ok (.iconst 1, 1) := by decide +kernel
theorem dX5_hasRoom_10 : decode cX5_hasRoom 10 = .ok (.goto 4, 3) := by decide +kernel
theorem dX5_hasRoom_13 : decode cX5_hasRoom 13 = .ok (.iconst 0, 1) := by decide +kernel
theorem dX5_hasRoom_14 : decode cX5_hasRoom 14 = .ok (.ireturn, 1) := by decide +kernel
theorem dX5_field_0 : decode cX5_field 0 = .ok (.aload_n 0, 1) := by decide +kernel
theorem dX5_field_1 : decode cX5_field 1 = .ok (.getfield 11, 3) := by decide +kernel
theorem dX5_field_4 : decode cX5_field 4 = .ok (.iload_n 1, 1) := by decide +kernel
theorem dX5_field_5 : decode cX5_field 5 = .ok (.iconst 4, 1) := by decide +kernel
theorem dX5_field_6 : decode cX5_field 6 = .ok (.imul, 1) := by decide +kernel
theorem dX5_field_7 : decode cX5_field 7 = .ok (.iload_n 2, 1) := by decide +kernel
theorem dX5_field_8 : decode cX5_field 8 = .ok (.iadd, 1) := by decide +kernel
theorem dX5_field_9 : decode cX5_field 9 = .ok (.iaload, 1) := by decide +kernel
theorem dX5_field_10 : decode cX5_field 10 = .ok (.ireturn, 1) := by decide +kernel
theorem dX5_add_0 : decode cX5_add 0 = .ok (.aload_n 0, 1) := by decide +kernel
theorem dX5_add_1 : decode cX5_add 1 = .ok (.getfield 15, 3) := by decide +kernel
theorem dX5_add_4 : decode cX5_add 4 = .ok (.iconst 4, 1) := by decide +kernel
theorem dX5_add_5 : decode cX5_add 5 = .ok (.imul, 1) := by decide +kernel
theorem dX5_add_6 : decode cX5_add 6 = .ok (.istore 5, 2) := by decide +kernel
theorem dX5_add_8 : decode cX5_add 8 = .ok (.aload_n 0, 1) := by decide +kernel
theorem dX5_add_9 : decode cX5_add 9 = .ok (.getfield 11, 3) := by decide +kernel
theorem dX5_add_12 : decode cX5_add 12 = .ok (.iload 5, 2) := by decide +kernel
theorem dX5_add_14 : decode cX5_add 14 = .ok (.iconst 0, 1) := by decide +kernel
theorem dX5_add_15 : decode cX5_add 15 = .ok (.iadd, 1) := by decide +kernel
theorem dX5_add_16 : decode cX5_add 16 = .ok (.iload_n 1, 1) := by decide +kernel
theorem dX5_add_17 : decode cX5_add 17 = .ok (.iastore, 1) := by decide +kernel
theorem dX5_add_18 : decode cX5_add 18 = .ok (.aload_n 0, 1) := by decide +kernel
theorem dX5_add_19 : decode cX5_add 19 = .ok (.getfield 11, 3) := by decide +kernel
theorem dX5_add_22 : decode cX5_add 22 = .ok (.iload 5, 2) := by decide +kernel
theorem dX5_add_24 : decode cX5_add 24 = .ok (.iconst 1, 1) := by decide +kernel
theorem dX5_add_25 : decode cX5_add 25 = .ok (.iadd, 1) := by decide +kernel
theorem dX5_add_26 : decode cX5_add 26 = .ok (.iload_n 2, 1) := by decide +kernel
theorem dX5_add_27 : decode cX5_add 27 = .ok (.iastore, 1) := by decide +kernel
theorem dX5_add_28 : decode cX5_add 28 = .ok (.aload_n 0, 1) := by decide +kernel
theorem dX5_add_29 : decode cX5_add 29 = .ok (.getfield 11, 3) := by decide +kernel
theorem dX5_add_32 : decode cX5_add 32 = .ok (.iload 5, 2) := by decide +kernel
theorem dX5_add_34 : decode cX5_add 34 = .ok (.iconst 2, 1) := by decide +kernel
theorem dX5_add_35 : decode cX5_add 35 = .ok (.iadd, 1) := by decide +kernel
theorem dX5_add_36 : decode cX5_add 36 = .ok (.iload_n 3, 1) := by decide +kernel
theorem dX5_add_37 : decode cX5_add 37 = .ok (.iastore, 1) := by decide +kernel
theorem dX5_add_38 : decode cX5_add 38 = .ok (.aload_n 0, 1) := by decide +kernel
theorem dX5_add_39 : decode cX5_add 39 = .ok (.getfield 11, 3) := by decide +kernel
theorem dX5_add_42 : decode cX5_add 42 = .ok (.iload 5, 2) := by decide +kernel
theorem dX5_add_44 : decode cX5_add 44 = .ok (.iconst 3, 1) := by decide +kernel
theorem dX5_add_45 : decode cX5_add 45 = .ok (.iadd, 1) := by decide +kernel
theorem dX5_add_46 : decode cX5_add 46 = .ok (.iload 4, 2) := by decide +kernel
theorem dX5_add_48 : decode cX5_add 48 = .ok (.iastore, 1) := by decide +kernel
theorem dX5_add_49 : decode cX5_add 49 = .ok (.aload_n 0, 1) := by decide +kernel
theorem dX5_add_50 : decode cX5_add 50 = .ok (.dup, 1) := by decide +kernel
theorem dX5_add_51 : decode cX5_add 51 = .ok (.getfield 15, 3) := by decide +kernel
theorem dX5_add_54 : decode cX5_add 54 = .ok (.iconst 1, 1) := by decide +kernel
theorem dX5_add_55 : decode cX5_add 55 = .ok (.iadd, 1) := by decide +kernel
theorem dX5_add_56 : decode cX5_add 56 = .ok (.putfield 15, 3) := by decide +kernel
theorem dX5_add_59 : decode cX5_add 59 = .ok (.aload_n 0, 1) := by decide +kernel
theorem dX5_add_60 : decode cX5_add 60 = .ok (.getfield 15, 3) := by decide +kernel
theorem dX5_add_63 : decode cX5_add 63 = .ok (.iconst 1, 1) := by decide +kernel
theorem dX5_add_64 : decode cX5_add 64 = .ok (.isub, 1) := by decide +kernel
theorem dX5_add_65 : decode cX5_add 65 = .ok (.ireturn, 1) := by decide +kernel
theorem dX5_latest_0 : decode cX5_latest 0 = .ok (.aload_n 0, 1) := by decide +kernel
theorem dX5_latest_1 : decode cX5_latest 1 = .ok (.getfield 15, 3) := by decide +kernel
theorem dX5_latest_4 : decode cX5_latest 4 = .ok (.iconst 1, 1) := by decide +kernel
theorem dX5_latest_5 : decode cX5_latest 5 = .ok (.isub, 1) := by decide +kernel
theorem dX5_latest_6 : decode cX5_latest 6 = .ok (.istore 4, 2) := by decide +kernel
theorem dX5_latest_8 : decode cX5_latest 8 = .ok (.iload 4, 2) := by decide +kernel
theorem dX5_latest_10 : decode cX5_latest 10 = .ok (.ifCond .lt 34, 3) := by decide +kernel
theorem dX5_latest_13 : decode cX5_latest 13 = .ok (.aload_n 0, 1) := by decide +kernel
theorem dX5_latest_14 : decode cX5_latest 14 = .ok (.iload 4, 2) := by decide +kernel
theorem dX5_latest_16 : decode cX5_latest 16 = .ok (.iload_n 1, 1) := by decide +kernel
theorem dX5_latest_17 : decode cX5_latest 17 = .ok (.iload_n 2, 1) := by decide +kernel
theorem dX5_latest_18 : decode cX5_latest 18 = .ok (.invokevirtual 19, 3) := by decide +kernel
theorem dX5_latest_21 : decode cX5_latest 21 = .ok (.ifCond .eq 17, 3) := by decide +kernel
theorem dX5_latest_24 : decode cX5_latest 24 = .ok (.aload_n 0, 1) := by decide +kernel
theorem dX5_latest_25 : decode cX5_latest 25 = .ok (.iload 4, 2) := by decide +kernel
theorem dX5_latest_27 : decode cX5_latest 27 = .ok (.iconst 3, 1) := by decide +kernel
theorem dX5_latest_28 : decode cX5_latest 28 = .ok (.invokevirtual 23, 3) := by decide +kernel
theorem dX5_latest_31 : decode cX5_latest 31 = .ok (.iload_n 3, 1) := by decide +kernel
theorem dX5_latest_32 : decode cX5_latest 32 = .ok (.if_icmp .ne 6, 3) := by decide +kernel
theorem dX5_latest_35 : decode cX5_latest 35 = .ok (.iload 4, 2) := by decide +kernel
theorem dX5_latest_37 : decode cX5_latest 37 = .ok (.ireturn, 1) := by decide +kernel
theorem dX5_latest_38 : decode cX5_latest 38 = .ok (.iinc 4 (-1), 3) := by decide +kernel
theorem dX5_latest_41 : decode cX5_latest 41 = .ok (.goto (-33), 3) := by decide +kernel
theorem dX5_latest_44 : decode cX5_latest 44 = .ok (.iconst (-1), 1) := by decide +kernel
theorem dX5_latest_45 : decode cX5_latest 45 = .ok (.ireturn, 1) := by decide +kernel
theorem dX5_counts_0 : decode cX5_counts 0 = .ok (.aload_n 0, 1) := by decide +kernel
theorem dX5_counts_1 : decode cX5_counts 1 = .ok (.aload_n 0, 1) := by decide +kernel
theorem dX5_counts_2 : decode cX5_counts 2 = .ok (.iload_n 1, 1) := by decide +kernel
theorem dX5_counts_3 : decode cX5_counts 3 = .ok (.iconst 0, 1) := by decide +kernel
theorem dX5_counts_4 : decode cX5_counts 4 = .ok (.invokevirtual 23, 3) := by decide +kernel
theorem dX5_counts_7 : decode cX5_counts 7 = .ok (.aload_n 0, 1) := by decide +kernel
theorem dX5_counts_8 : decode cX5_counts 8 = .ok (.iload_n 1, 1) := by decide +kernel
theorem dX5_counts_9 : decode cX5_counts 9 = .ok (.iconst 2, 1) := by decide +kernel
theorem dX5_counts_10 : decode cX5_counts 10 = .ok (.invokevirtual 23, 3) := by decide +kernel
theorem dX5_counts_13 : decode cX5_counts 13 = .ok (.aload_n 0, 1) := by decide +kernel
theorem dX5_counts_14 : decode cX5_counts 14 = .ok (.iload_n 1, 1) := by decide +kernel
theorem dX5_counts_15 : decode cX5_counts 15 = .ok (.iconst 3, 1) := by decide +kernel
theorem dX5_counts_16 : decode cX5_counts 16 = .ok (.invokevirtual 23, 3) := by decide +kernel
theorem dX5_counts_19 : decode cX5_counts 19 = .ok (.invokevirtual 27, 3) := by decide +kernel
theorem dX5_counts_22 : decode cX5_counts 22 = .ok (.iload_n 1, 1) := by decide +kernel
theorem dX5_counts_23 : decode cX5_counts 23 = .ok (.if_icmp .ne 7, 3) := by decide +kernel
theorem dX5_counts_26 : decode cX5_counts 26 = .ok (.iconst 1, 1) := by decide +kernel
theorem dX5_counts_27 : decode cX5_counts 27 = .ok (.goto 4, 3) := by decide +kernel
theorem dX5_counts_30 : decode cX5_counts 30 = .ok (.iconst 0, 1) := by decide +kernel
theorem dX5_counts_31 : decode cX5_counts 31 = .ok (.ireturn, 1) := by decide +kernel
theorem dX5_pin_0 : decode cX5_pin 0 = .ok (.iconst 0, 1) := by decide +kernel
theorem dX5_pin_1 : decode cX5_pin 1 = .ok (.istore 4, 2) := by decide +kernel
theorem dX5_pin_3 : decode cX5_pin 3 = .ok (.iload 4, 2) := by decide +kernel
theorem dX5_pin_5 : decode cX5_pin 5 = .ok (.bipush 24, 2) := by decide +kernel
theorem dX5_pin_7 : decode cX5_pin 7 = .ok (.if_icmp .ge 16, 3) := by decide +kernel
theorem dX5_pin_10 : decode cX5_pin 10 = .ok (.aload_n 3, 1) := by decide +kernel
theorem dX5_pin_11 : decode cX5_pin 11 = .ok (.iload 4, 2) := by decide +kernel
theorem dX5_pin_13 : decode cX5_pin 13 = .ok (.sipush 255, 3) := by decide +kernel
theorem dX5_pin_16 : decode cX5_pin 16 = .ok (.iastore, 1) := by decide +kernel
theorem dX5_pin_17 : decode cX5_pin 17 = .ok (.iinc 4 1, 3) := by decide +kernel
theorem dX5_pin_20 : decode cX5_pin 20 = .ok (.goto (-17), 3) := by decide +kernel
theorem dX5_pin_23 : decode cX5_pin 23 = .ok (.iconst 0, 1) := by decide +kernel
theorem dX5_pin_24 : decode cX5_pin 24 = .ok (.istore 4, 2) := by decide +kernel
theorem dX5_pin_26 : decode cX5_pin 26 = .ok (.iload 4, 2) := by decide +kernel
theorem dX5_pin_28 : decode cX5_pin 28 = .ok (.aload_n 0, 1) := by decide +kernel
theorem dX5_pin_29 : decode cX5_pin 29 = .ok (.getfield 15, 3) := by decide +kernel
theorem dX5_pin_32 : decode cX5_pin 32 = .ok (.if_icmp .ge 38, 3) := by decide +kernel
theorem dX5_pin_35 : decode cX5_pin 35 = .ok (.aload_n 0, 1) := by decide +kernel
theorem dX5_pin_36 : decode cX5_pin 36 = .ok (.iload 4, 2) := by decide +kernel
theorem dX5_pin_38 : decode cX5_pin 38 = .ok (.iload_n 1, 1) := by decide +kernel
theorem dX5_pin_39 : decode cX5_pin 39 = .ok (.iload_n 2, 1) := by decide +kernel
theorem dX5_pin_40 : decode cX5_pin 40 = .ok (.invokevirtual 19, 3) := by decide +kernel
theorem dX5_pin_43 : decode cX5_pin 43 = .ok (.ifCond .eq 21, 3) := by decide +kernel
theorem dX5_pin_46 : decode cX5_pin 46 = .ok (.aload_n 3, 1) := by decide +kernel
theorem dX5_pin_47 : decode cX5_pin 47 = .ok (.aload_n 0, 1) := by decide +kernel
theorem dX5_pin_48 : decode cX5_pin 48 = .ok (.iload 4, 2) := by decide +kernel
theorem dX5_pin_50 : decode cX5_pin 50 = .ok (.iconst 3, 1) := by decide +kernel
theorem dX5_pin_51 : decode cX5_pin 51 = .ok (.invokevirtual 23, 3) := by decide +kernel
theorem dX5_pin_54 : decode cX5_pin 54 = .ok (.iconst 1, 1) := by decide +kernel
theorem dX5_pin_55 : decode cX5_pin 55 = .ok (.aload_n 0, 1) := by decide +kernel
theorem dX5_pin_56 : decode cX5_pin 56 = .ok (.iload 4, 2) := by decide +kernel
theorem dX5_pin_58 : decode cX5_pin 58 = .ok (.iconst 1, 1) := by decide +kernel
theorem dX5_pin_59 : decode cX5_pin 59 = .ok (.invokevirtual 23, 3) := by decide +kernel
theorem dX5_pin_62 : decode cX5_pin 62 = .ok (.ishl, 1) := by decide +kernel
theorem dX5_pin_63 : decode cX5_pin 63 = .ok (.iastore, 1) := by decide +kernel
theorem dX5_pin_64 : decode cX5_pin 64 = .ok (.iinc 4 1, 3) := by decide +kernel
theorem dX5_pin_67 : decode cX5_pin 67 = .ok (.goto (-41), 3) := by decide +kernel
theorem dX5_pin_70 : decode cX5_pin 70 = .ok (.return_, 1) := by decide +kernel
theorem dX5_isOf_0 : decode cX5_isOf 0 = .ok (.aload_n 0, 1) := by decide +kernel
theorem dX5_isOf_1 : decode cX5_isOf 1 = .ok (.iload_n 1, 1) := by decide +kernel
theorem dX5_isOf_2 : decode cX5_isOf 2 = .ok (.iconst 0, 1) := by decide +kernel
theorem dX5_isOf_3 : decode cX5_isOf 3 = .ok (.invokevirtual 23, 3) := by decide +kernel
theorem dX5_isOf_6 : decode cX5_isOf 6 = .ok (.iload_n 2, 1) := by decide +kernel
theorem dX5_isOf_7 : decode cX5_isOf 7 = .ok (.if_icmp .ne 17, 3) := by decide +kernel
theorem dX5_isOf_10 : decode cX5_isOf 10 = .ok (.aload_n 0, 1) := by decide +kernel
theorem dX5_isOf_11 : decode cX5_isOf 11 = .ok (.iload_n 1, 1) := by decide +kernel
theorem dX5_isOf_12 : decode cX5_isOf 12 = .ok (.iconst 2, 1) := by decide +kernel
theorem dX5_isOf_13 : decode cX5_isOf 13 = .ok (.invokevirtual 23, 3) := by decide +kernel
theorem dX5_isOf_16 : decode cX5_isOf 16 = .ok (.iload_n 3, 1) := by decide +kernel
theorem dX5_isOf_17 : decode cX5_isOf 17 = .ok (.if_icmp .ne 7, 3) := by decide +kernel
theorem dX5_isOf_20 : decode cX5_isOf 20 = .ok (.iconst 1, 1) := by decide +kernel
theorem dX5_isOf_21 : decode cX5_isOf 21 = .ok (.goto 4, 3) := by decide +kernel
theorem dX5_isOf_24 : decode cX5_isOf 24 = .ok (.iconst 0, 1) := by decide +kernel
theorem dX5_isOf_25 : decode cX5_isOf 25 = .ok (.ireturn, 1) := by decide +kernel
theorem dX5_takeFrom_0 : decode cX5_takeFrom 0 = .ok (.aload_n 1, 1) := by decide +kernel
theorem dX5_takeFrom_1 : decode cX5_takeFrom 1 = .ok (.getfield 11, 3) := by decide +kernel
theorem dX5_takeFrom_4 : decode cX5_takeFrom 4 = .ok (.iconst 0, 1) := by decide +kernel
theorem dX5_takeFrom_5 : decode cX5_takeFrom 5 = .ok (.aload_n 0, 1) := by decide +kernel
theorem dX5_takeFrom_6 : decode cX5_takeFrom 6 = .ok (.getfield 11, 3) := by decide +kernel
theorem dX5_takeFrom_9 : decode cX5_takeFrom 9 = .ok (.iconst 0, 1) := by decide +kernel
theorem dX5_takeFrom_10 : decode cX5_takeFrom 10 = .ok (.sipush 240, 3) := by decide +kernel
theorem dX5_takeFrom_13 : decode cX5_takeFrom 13 = .ok (.invokestatic 31, 3) := by decide +kernel
theorem dX5_takeFrom_16 : decode cX5_takeFrom 16 = .ok (.aload_n 0, 1) := by decide +kernel
theorem dX5_takeFrom_17 : decode cX5_takeFrom 17 = .ok (.aload_n 1, 1) := by decide +kernel
theorem dX5_takeFrom_18 : decode cX5_takeFrom 18 = .ok (.getfield 15, 3) := by decide +kernel
theorem dX5_takeFrom_21 : decode cX5_takeFrom 21 = .ok (.putfield 15, 3) := by decide +kernel
theorem dX5_takeFrom_24 : decode cX5_takeFrom 24 = .ok (.return_, 1) := by decide +kernel
theorem dX6_init_0 : decode cX6_init 0 = .ok (.aload_n 0, 1) := by decide +kernel
theorem dX6_init_1 : decode cX6_init 1 = .ok (.invokespecial 3, 3) := by decide +kernel
theorem dX6_init_4 : decode cX6_init 4 = .ok (.aload_n 0, 1) := by decide +kernel
theorem dX6_init_5 : decode cX6_init 5 = .ok (.iconst 5, 1) := by decide +kernel
theorem dX6_init_6 : decode cX6_init 6 = .ok (.newarray .int, 2) := by decide +kernel
theorem dX6_init_8 : decode cX6_init 8 = .ok (.putfield 9, 3) := by decide +kernel
theorem dX6_init_11 : decode cX6_init 11 = .ok (.aload_n 0, 1) := by decide +kernel
theorem dX6_init_12 : decode cX6_init 12 = .ok (.iconst 5, 1) := by decide +kernel
theorem dX6_init_13 : decode cX6_init 13 = .ok (.newarray .int, 2) := by decide +kernel
theorem dX6_init_15 : decode cX6_init 15 = .ok (.putfield 15, 3) := by decide +kernel
theorem dX6_init_18 : decode cX6_init 18 = .ok (.aload_n 0, 1) := by decide +kernel
theorem dX6_init_19 : decode cX6_init 19 = .ok (.bipush 30, 2) := by decide +kernel
theorem dX6_init_21 : decode cX6_init 21 = .ok (.newarray .int, 2) := by decide +kernel
theorem dX6_init_23 : decode cX6_init 23 = .ok (.putfield 18, 3) := by decide +kernel
theorem dX6_init_26 : decode cX6_init 26 = .ok (.aload_n 0, 1) := by decide +kernel
theorem dX6_init_27 : decode cX6_init 27 = .ok (.bipush 6, 2) := by decide +kernel
theorem dX6_init_29 : decode cX6_init 29 = .ok (.newarray .int, 2) := by decide +kernel
theorem dX6_init_31 : decode cX6_init 31 = .ok (.putfield 21, 3) := by decide +kernel
theorem dX6_init_34 : decode cX6_init 34 = .ok (.return_, 1) := by decide +kernel
theorem dX6_setUp_0 : decode cX6_setUp 0 = .ok (.aload_n 0, 1) := by decide +kernel
theorem dX6_setUp_1 : decode cX6_setUp 1 = .ok (.getfield 9, 3) := by decide +kernel
theorem dX6_setUp_4 : decode cX6_setUp 4 = .ok (.iload_n 1, 1) := by decide +kernel
theorem dX6_setUp_5 : decode cX6_setUp 5 = .ok (.iload_n 2, 1) := by decide +kernel
theorem dX6_setUp_6 : decode cX6_setUp 6 = .ok (.iastore, 1) := by decide +kernel
theorem dX6_setUp_7 : decode cX6_setUp 7 = .ok (.aload_n 0, 1) := by decide +kernel
theorem dX6_setUp_8 : decode cX6_setUp 8 = .ok (.getfield 15, 3) := by decide +kernel
theorem dX6_setUp_11 : decode cX6_setUp 11 = .ok (.iload_n 1, 1) := by decide +kernel
theorem dX6_setUp_12 : decode cX6_setUp 12 = .ok (.iload_n 3, 1) := by decide +kernel
theorem dX6_setUp_13 : decode cX6_setUp 13 = .ok (.iastore, 1) := by decide +kernel
theorem dX6_setUp_14 : decode cX6_setUp 14 = .ok (.return_, 1) := by decide +kernel
theorem dX6_roomOf_0 : decode cX6_roomOf 0 = .ok (.aload_n 0, 1) := by decide +kernel
theorem dX6_roomOf_1 : decode cX6_roomOf 1 = .ok (.getfield 9, 3) := by decide +kernel
theorem dX6_roomOf_4 : decode cX6_roomOf 4 = .ok (.iload_n 1, 1) := by decide +kernel
theorem dX6_roomOf_5 : decode cX6_roomOf 5 = .ok (.iaload, 1) := by decide +kernel
theorem dX6_roomOf_6 : decode cX6_roomOf 6 = .ok (.ireturn, 1) := by decide +kernel
theorem dX6_backedBy_0 : decode cX6_backedBy 0 = .ok (.aload_n 0, 1) := by decide +kernel
theorem dX6_backedBy_1 : decode cX6_backedBy 1 = .ok (.getfield 15, 3) := by decide +kernel
theorem dX6_backedBy_4 : decode cX6_backedBy 4 = .ok (.iload_n 1, 1) := by decide +kernel
theorem dX6_backedBy_5 : decode cX6_backedBy 5 = .ok (.iaload, 1) := by decide +kernel
theorem dX6_backedBy_6 : decode cX6_backedBy 6 = .ok (.ireturn, 1) := by decide +kernel
theorem dX6_givenOf_0 : decode cX6_givenOf 0 = .ok (.aload_n 0, 1) := by decide +kernel
theorem dX6_givenOf_1 : decode cX6_givenOf 1 = .ok (.getfield 18, 3) := by decide +kernel
theorem dX6_givenOf_4 : decode cX6_givenOf 4 = .ok (.iload_n 1, 1) := by decide +kernel
theorem dX6_givenOf_5 : decode cX6_givenOf 5 = .ok (.bipush 6, 2) := by decide +kernel
theorem dX6_givenOf_7 : decode cX6_givenOf 7 = .ok (.imul, 1) := by decide +kernel
theorem dX6_givenOf_8 : decode cX6_givenOf 8 = .ok (.iload_n 2, 1) := by decide +kernel
theorem dX6_givenOf_9 : decode cX6_givenOf 9 = .ok (.iadd, 1) := by decide +kernel
theorem dX6_givenOf_10 : decode cX6_givenOf 10 = .ok (.iaload, 1) := by decide +kernel
theorem dX6_givenOf_11 : decode cX6_givenOf 11 = .ok (.ireturn, 1) := by decide +kernel
theorem dX6_givenBy_0 : decode cX6_givenBy 0 = .ok (.iconst 0, 1) := by decide +kernel
theorem dX6_givenBy_1 : decode cX6_givenBy 1 = .ok (.istore_n 2, 1) := by decide +kernel
theorem dX6_givenBy_2 : decode cX6_givenBy 2 = .ok (.iconst 0, 1) := by decide +kernel
theorem dX6_givenBy_3 : decode cX6_givenBy 3 = .ok (.istore_n 3, 1) := by decide +kernel
theorem dX6_givenBy_4 : decode cX6_givenBy 4 = .ok (.iload_n 3, 1) := by decide +kernel
theorem dX6_givenBy_5 : decode cX6_givenBy 5 = .ok (.bipush 6, 2) := by decide +kernel
theorem dX6_givenBy_7 : decode cX6_givenBy 7 = .ok (.if_icmp .ge 18, 3) := by decide +kernel
theorem dX6_givenBy_10 : decode cX6_givenBy 10 = .ok (.iload_n 2, 1) := by decide +kernel
theorem dX6_givenBy_11 : decode cX6_givenBy 11 = .ok (.aload_n 0, 1) := by decide +kernel
theorem dX6_givenBy_12 : decode cX6_givenBy 12 = .ok (.iload_n 1, 1) := by decide +kernel
theorem dX6_givenBy_13 : decode cX6_givenBy 13 = .ok (.iload_n 3, 1) := by decide +kernel
theorem dX6_givenBy_14 : decode cX6_givenBy 14 = .ok (.invokevirtual 24, 3) := by decide +kernel
theorem dX6_givenBy_17 : decode cX6_givenBy 17 = .ok (.iadd, 1) := by decide +kernel
theorem dX6_givenBy_18 : decode cX6_givenBy 18 = .ok (.istore_n 2, 1) := by decide +kernel
theorem dX6_givenBy_19 : decode cX6_givenBy 19 = .ok (.iinc 3 1, 3) := by decide +kernel
theorem dX6_givenBy_22 : decode cX6_givenBy 22 = .ok (.goto (-18), 3) := by decide +kernel
theorem dX6_givenBy_25 : decode cX6_givenBy 25 = .ok (.iload_n 2, 1) := by decide +kernel
theorem dX6_givenBy_26 : decode cX6_givenBy 26 = .ok (.ireturn, 1) := by decide +kernel
theorem dX6_givenFor_0 : decode cX6_givenFor 0 = .ok (.iconst 0, 1) := by decide +kernel
theorem dX6_givenFor_1 : decode cX6_givenFor 1 = .ok (.istore_n 2, 1) := by decide +kernel
theorem dX6_givenFor_2 : decode cX6_givenFor 2 = .ok (.iconst 0, 1) := by decide +kernel
theorem dX6_givenFor_3 : decode cX6_givenFor 3 = .ok (.istore_n 3, 1) := by decide +kernel
theorem dX6_givenFor_4 : decode cX6_givenFor 4 = .ok (.iload_n 3, 1) := by decide +kernel
theorem dX6_givenFor_5 : decode cX6_givenFor 5 = .ok (.iconst 5, 1) := by decide +kernel
theorem dX6_givenFor_6 : decode cX6_givenFor 6 = .ok (.if_icmp .ge 18, 3) := by decide +kernel
theorem dX6_givenFor_9 : decode cX6_givenFor 9 = .ok (.iload_n 2, 1) := by decide +kernel
theorem dX6_givenFor_10 : decode cX6_givenFor 10 = .ok (.aload_n 0, 1) := by decide +kernel
theorem dX6_givenFor_11 : decode cX6_givenFor 11 = .ok (.iload_n 3, 1) := by decide +kernel
theorem dX6_givenFor_12 : decode cX6_givenFor 12 = .ok (.iload_n 1, 1) := by decide +kernel
theorem dX6_givenFor_13 : decode cX6_givenFor 13 = .ok (.invokevirtual 24, 3) := by decide +kernel
theorem dX6_givenFor_16 : decode cX6_givenFor 16 = .ok (.iadd, 1) := by decide +kernel
theorem dX6_givenFor_17 : decode cX6_givenFor 17 = .ok (.istore_n 2, 1) := by decide +kernel
theorem dX6_givenFor_18 : decode cX6_givenFor 18 = .ok (.iinc 3 1, 3) := by decide +kernel
theorem dX6_givenFor_21 : decode cX6_givenFor 21 = .ok (.goto (-17), 3) := by decide +kernel
theorem dX6_givenFor_24 : decode cX6_givenFor 24 = .ok (.iload_n 2, 1) := by decide +kernel
theorem dX6_givenFor_25 : decode cX6_givenFor 25 = .ok (.ireturn, 1) := by decide +kernel
theorem dX6_bailOf_0 : decode cX6_bailOf 0 = .ok (.aload_n 0, 1) := by decide +kernel
theorem dX6_bailOf_1 : decode cX6_bailOf 1 = .ok (.getfield 21, 3) := by decide +kernel
theorem dX6_bailOf_4 : decode cX6_bailOf 4 = .ok (.iload_n 1, 1) := by decide +kernel
theorem dX6_bailOf_5 : decode cX6_bailOf 5 = .ok (.iaload, 1) := by decide +kernel
theorem dX6_bailOf_6 : decode cX6_bailOf 6 = .ok (.ireturn, 1) := by decide +kernel
theorem dX6_setBail_0 : decode cX6_setBail 0 = .ok (.aload_n 0, 1) := by decide +kernel
theorem dX6_setBail_1 : decode cX6_setBail 1 = .ok (.getfield 21, 3) := by decide +kernel
theorem dX6_setBail_4 : decode cX6_setBail 4 = .ok (.iload_n 1, 1) := by decide +kernel
theorem dX6_setBail_5 : decode cX6_setBail 5 = .ok (.iload_n 2, 1) := by decide +kernel
theorem dX6_setBail_6 : decode cX6_setBail 6 = .ok (.iastore, 1) := by decide +kernel
theorem dX6_setBail_7 : decode cX6_setBail 7 = .ok (.return_, 1) := by decide +kernel
theorem dX6_takeBail_0 : decode cX6_takeBail 0 = .ok (.aload_n 0, 1) := by decide +kernel
theorem dX6_takeBail_1 : decode cX6_takeBail 1 = .ok (.getfield 21, 3) := by decide +kernel
theorem dX6_takeBail_4 : decode cX6_takeBail 4 = .ok (.iload_n 1, 1) := by decide +kernel
theorem dX6_takeBail_5 : decode cX6_takeBail 5 = .ok (.iaload, 1) := by decide +kernel
theorem dX6_takeBail_6 : decode cX6_takeBail 6 = .ok (.istore_n 2, 1) := by decide +kernel
theorem dX6_takeBail_7 : decode cX6_takeBail 7 = .ok (.iconst 0, 1) := by decide +kernel
theorem dX6_takeBail_8 : decode cX6_takeBail 8 = .ok (.istore_n 3, 1) := by decide +kernel
theorem dX6_takeBail_9 : decode cX6_takeBail 9 = .ok (.iload_n 3, 1) := by decide +kernel
theorem dX6_takeBail_10 : decode cX6_takeBail 10 = .ok (.iconst 5, 1) := by decide +kernel
theorem dX6_takeBail_11 : decode cX6_takeBail 11 = .ok (.if_icmp .ge 63, 3) := by decide +kernel
theorem dX6_takeBail_14 : decode cX6_takeBail 14 = .ok (.aload_n 0, 1) := by decide +kernel
theorem dX6_takeBail_15 : decode cX6_takeBail 15 = .ok (.getfield 15, 3) := by decide +kernel
theorem dX6_takeBail_18 : decode cX6_takeBail 18 = .ok (.iload_n 3, 1) := by decide +kernel
theorem dX6_takeBail_19 : decode cX6_takeBail 19 = .ok (.iaload, 1) := by decide +kernel
theorem dX6_takeBail_20 : decode cX6_takeBail 20 = .ok (.iload_n 1, 1) := by decide +kernel
theorem dX6_takeBail_21 : decode cX6_takeBail 21 = .ok (.invokestatic 28, 3) := by decide +kernel
theorem dX6_takeBail_24 : decode cX6_takeBail 24 = .ok (.ifCond .eq 44, 3) := by decide +kernel
theorem dX6_takeBail_27 : decode cX6_takeBail 27 = .ok (.iload_n 2, 1) := by decide +kernel
theorem dX6_takeBail_28 : decode cX6_takeBail 28 = .ok (.aload_n 0, 1) := by decide +kernel
theorem dX6_takeBail_29 : decode cX6_takeBail 29 = .ok (.getfield 9, 3) := by decide +kernel
theorem dX6_takeBail_32 : decode cX6_takeBail 32 = .ok (.iload_n 3, 1) := by decide +kernel
theorem dX6_takeBail_33 : decode cX6_takeBail 33 = .ok (.iaload, 1) := by decide +kernel
theorem dX6_takeBail_34 : decode cX6_takeBail 34 = .ok (.invokestatic 32, 3) := by decide +kernel
theorem dX6_takeBail_37 : decode cX6_takeBail 37 = .ok (.istore 4, 2) := by decide +kernel
theorem dX6_takeBail_39 : decode cX6_takeBail 39 = .ok (.aload_n 0, 1) := by decide +kernel
theorem dX6_takeBail_40 : decode cX6_takeBail 40 = .ok (.getfield 9, 3) := by decide +kernel
theorem dX6_takeBail_43 : decode cX6_takeBail 43 = .ok (.iload_n 3, 1) := by decide +kernel
theorem dX6_takeBail_44 : decode cX6_takeBail 44 = .ok (.dup2, 1) := by decide +kernel
theorem dX6_takeBail_45 : decode cX6_takeBail 45 = .ok (.iaload, 1) := by decide +kernel
theorem dX6_takeBail_46 : decode cX6_takeBail 46 = .ok (.iload 4, 2) := by decide +kernel
theorem dX6_takeBail_48 : decode cX6_takeBail 48 = .ok (.isub, 1) := by decide +kernel
theorem dX6_takeBail_49 : decode cX6_takeBail 49 = .ok (.iastore, 1) := by decide +kernel
theorem dX6_takeBail_50 : decode cX6_takeBail 50 = .ok (.aload_n 0, 1) := by decide +kernel
theorem dX6_takeBail_51 : decode cX6_takeBail 51 = .ok (.getfield 18, 3) := by decide +kernel
theorem dX6_takeBail_54 : decode cX6_takeBail 54 = .ok (.iload_n 3, 1) := by decide +kernel
theorem dX6_takeBail_55 : decode cX6_takeBail 55 = .ok (.bipush 6, 2) := by decide +kernel
theorem dX6_takeBail_57 : decode cX6_takeBail 57 = .ok (.imul, 1) := by decide +kernel
theorem dX6_takeBail_58 : decode cX6_takeBail 58 = .ok (.iload_n 1, 1) := by decide +kernel
theorem dX6_takeBail_59 : decode cX6_takeBail 59 = .ok (.iadd, 1) := by decide +kernel
theorem dX6_takeBail_60 : decode cX6_takeBail 60 = .ok (.iload 4, 2) := by decide +kernel
theorem dX6_takeBail_62 : decode cX6_takeBail 62 = .ok (.iastore, 1) := by decide +kernel
theorem dX6_takeBail_63 : decode cX6_takeBail 63 = .ok (.iload_n 2, 1) := by decide +kernel
theorem dX6_takeBail_64 : decode cX6_takeBail 64 = .ok (.iload 4, 2) := by decide +kernel
theorem dX6_takeBail_66 : decode cX6_takeBail 66 = .ok (.isub, 1) := by decide +kernel
theorem dX6_takeBail_67 : decode cX6_takeBail 67 = .ok (.istore_n 2, 1) := by decide +kernel
theorem dX6_takeBail_68 : decode cX6_takeBail 68 = .ok (.iinc 3 1, 3) := by decide +kernel
theorem dX6_takeBail_71 : decode cX6_takeBail 71 = .ok (.goto (-62), 3) := by decide +kernel
theorem dX6_takeBail_74 : decode cX6_takeBail 74 = .ok (.iload_n 2, 1) := by decide +kernel
theorem dX6_takeBail_75 : decode cX6_takeBail 75 = .ok (.ireturn, 1) := by decide +kernel
theorem dX6_giveBack_0 : decode cX6_giveBack 0 = .ok (.iconst 0, 1) := by decide +kernel
theorem dX6_giveBack_1 : decode cX6_giveBack 1 = .ok (.istore_n 2, 1) := by decide +kernel
theorem dX6_giveBack_2 : decode cX6_giveBack 2 = .ok (.iconst 0, 1) := by decide +kernel
theorem dX6_giveBack_3 : decode cX6_giveBack 3 = .ok (.istore_n 3, 1) := by decide +kernel
theorem dX6_giveBack_4 : decode cX6_giveBack 4 = .ok (.iload_n 3, 1) := by decide +kernel
theorem dX6_giveBack_5 : decode cX6_giveBack 5 = .ok (.iconst 5, 1) := by decide +kernel
theorem dX6_giveBack_6 : decode cX6_giveBack 6 = .ok (.if_icmp .ge 45, 3) := by decide +kernel
theorem dX6_giveBack_9 : decode cX6_giveBack 9 = .ok (.aload_n 0, 1) := by decide +kernel
theorem dX6_giveBack_10 : decode cX6_giveBack 10 = .ok (.iload_n 3, 1) := by decide +kernel
theorem dX6_giveBack_11 : decode cX6_giveBack 11 = .ok (.iload_n 1, 1) := by decide +kernel
theorem dX6_giveBack_12 : decode cX6_giveBack 12 = .ok (.invokevirtual 24, 3) := by decide +kernel
theorem dX6_giveBack_15 : decode cX6_giveBack 15 = .ok (.istore 4, 2) := by decide +kernel
theorem dX6_giveBack_17 : decode cX6_giveBack 17 = .ok (.aload_n 0, 1) := by decide +kernel
theorem dX6_giveBack_18 : decode cX6_giveBack 18 = .ok (.getfield 9, 3) := by decide +kernel
theorem dX6_giveBack_21 : decode cX6_giveBack 21 = .ok (.iload_n 3, 1) := by decide +kernel
theorem dX6_giveBack_22 : decode cX6_giveBack 22 = .ok (.dup2, 1) := by decide +kernel
theorem dX6_giveBack_23 : decode cX6_giveBack 23 = .ok (.iaload, 1) := by decide +kernel
theorem dX6_giveBack_24 : decode cX6_giveBack 24 = .ok (.iload 4, 2) := by decide +kernel
theorem dX6_giveBack_26 : decode cX6_giveBack 26 = .ok (.iadd, 1) := by decide +kernel
theorem dX6_giveBack_27 : decode cX6_giveBack 27 = .ok (.iastore, 1) := by decide +kernel
theorem dX6_giveBack_28 : decode cX6_giveBack 28 = .ok (.aload_n 0, 1) := by decide +kernel
theorem dX6_giveBack_29 : decode cX6_giveBack 29 = .ok (.getfield 18, 3) := by decide +kernel
theorem dX6_giveBack_32 : decode cX6_giveBack 32 = .ok (.iload_n 3, 1) := by decide +kernel
theorem dX6_giveBack_33 : decode cX6_giveBack 33 = .ok (.bipush 6, 2) := by decide +kernel
theorem dX6_giveBack_35 : decode cX6_giveBack 35 = .ok (.imul, 1) := by decide +kernel
theorem dX6_giveBack_36 : decode cX6_giveBack 36 = .ok (.iload_n 1, 1) := by decide +kernel
theorem dX6_giveBack_37 : decode cX6_giveBack 37 = .ok (.iadd, 1) := by decide +kernel
theorem dX6_giveBack_38 : decode cX6_giveBack 38 = .ok (.iconst 0, 1) := by decide +kernel
theorem dX6_giveBack_39 : decode cX6_giveBack 39 = .ok (.iastore, 1) := by decide +kernel
theorem dX6_giveBack_40 : decode cX6_giveBack 40 = .ok (.iload_n 2, 1) := by decide +kernel
theorem dX6_giveBack_41 : decode cX6_giveBack 41 = .ok (.iload 4, 2) := by decide +kernel
theorem dX6_giveBack_43 : decode cX6_giveBack 43 = .ok (.iadd, 1) := by decide +kernel
theorem dX6_giveBack_44 : decode cX6_giveBack 44 = .ok (.istore_n 2, 1) := by decide +kernel
theorem dX6_giveBack_45 : decode cX6_giveBack 45 = .ok (.iinc 3 1, 3) := by decide +kernel
theorem dX6_giveBack_48 : decode cX6_giveBack 48 = .ok (.goto (-44), 3) := by decide +kernel
theorem dX6_giveBack_51 : decode cX6_giveBack 51 = .ok (.iload_n 2, 1) := by decide +kernel
theorem dX6_giveBack_52 : decode cX6_giveBack 52 = .ok (.ireturn, 1) := by decide +kernel
theorem dX6_roomOfAll_0 : decode cX6_roomOfAll 0 = .ok (.iconst 0, 1) := by decide +kernel
theorem dX6_roomOfAll_1 : decode cX6_roomOfAll 1 = .ok (.istore_n 1, 1) := by decide +kernel
theorem dX6_roomOfAll_2 : decode cX6_roomOfAll 2 = .ok (.iconst 0, 1) := by decide +kernel
theorem dX6_roomOfAll_3 : decode cX6_roomOfAll 3 = .ok (.istore_n 2, 1) := by decide +kernel
theorem dX6_roomOfAll_4 : decode cX6_roomOfAll 4 = .ok (.iload_n 2, 1) := by decide +kernel
theorem dX6_roomOfAll_5 : decode cX6_roomOfAll 5 = .ok (.iconst 5, 1) := by decide +kernel
theorem dX6_roomOfAll_6 : decode cX6_roomOfAll 6 = .ok (.if_icmp .ge 18, 3) := by decide +kernel
theorem dX6_roomOfAll_9 : decode cX6_roomOfAll 9 = .ok (.iload_n 1, 1) := by decide +kernel
theorem dX6_roomOfAll_10 : decode cX6_roomOfAll 10 = .ok (.aload_n 0, 1) := by decide +kernel
theorem dX6_roomOfAll_11 : decode cX6_roomOfAll 11 = .ok (.getfield 9, 3) := by decide +kernel
theorem dX6_roomOfAll_14 : decode cX6_roomOfAll 14 = .ok (.iload_n 2, 1) := by decide +kernel
theorem dX6_roomOfAll_15 : decode cX6_roomOfAll 15 = .ok (.iaload, 1) := by decide +kernel
theorem dX6_roomOfAll_16 : decode cX6_roomOfAll 16 = .ok (.iadd, 1) := by decide +kernel
theorem dX6_roomOfAll_17 : decode cX6_roomOfAll 17 = .ok (.istore_n 1, 1) := by decide +kernel
theorem dX6_roomOfAll_18 : decode cX6_roomOfAll 18 = .ok (.iinc 2 1, 3) := by decide +kernel
theorem dX6_roomOfAll_21 : decode cX6_roomOfAll 21 = .ok (.goto (-17), 3) := by decide +kernel
theorem dX6_roomOfAll_24 : decode cX6_roomOfAll 24 = .ok (.iload_n 1, 1) := by decide +kernel
theorem dX6_roomOfAll_25 : decode cX6_roomOfAll 25 = .ok (.ireturn, 1) := by decide +kernel
theorem dX6_takeFrom_0 : decode cX6_takeFrom 0 = .ok (.aload_n 1, 1) := by decide +kernel
theorem dX6_takeFrom_1 : decode cX6_takeFrom 1 = .ok (.getfield 9, 3) := by decide +kernel
theorem dX6_takeFrom_4 : decode cX6_takeFrom 4 = .ok (.iconst 0, 1) := by decide +kernel
theorem dX6_takeFrom_5 : decode cX6_takeFrom 5 = .ok (.aload_n 0, 1) := by decide +kernel
theorem dX6_takeFrom_6 : decode cX6_takeFrom 6 = .ok (.getfield 9, 3) := by decide +kernel
theorem dX6_takeFrom_9 : decode cX6_takeFrom 9 = .ok (.iconst 0, 1) := by decide +kernel
theorem dX6_takeFrom_10 : decode cX6_takeFrom 10 = .ok (.iconst 5, 1) := by decide +kernel
theorem dX6_takeFrom_11 : decode cX6_takeFrom 11 = .ok (.invokestatic 37, 3) := by decide +kernel
theorem dX6_takeFrom_14 : decode cX6_takeFrom 14 = .ok (.aload_n 1, 1) := by decide +kernel
theorem dX6_takeFrom_15 : decode cX6_takeFrom 15 = .ok (.getfield 15, 3) := by decide +kernel
theorem dX6_takeFrom_18 : decode cX6_takeFrom 18 = .ok (.iconst 0, 1) := by decide +kernel
theorem dX6_takeFrom_19 : decode cX6_takeFrom 19 = .ok (.aload_n 0, 1) := by decide +kernel
theorem dX6_takeFrom_20 : decode cX6_takeFrom 20 = .ok (.getfield 15, 3) := by decide +kernel
theorem dX6_takeFrom_23 : decode cX6_takeFrom 23 = .ok (.iconst 0, 1) := by decide +kernel
theorem dX6_takeFrom_24 : decode cX6_takeFrom 24 = .ok (.iconst 5, 1) := by decide +kernel
theorem dX6_takeFrom_25 : decode cX6_takeFrom 25 = .ok (.invokestatic 37, 3) := by decide +kernel
theorem dX6_takeFrom_28 : decode cX6_takeFrom 28 = .ok (.aload_n 1, 1) := by decide +kernel
theorem dX6_takeFrom_29 : decode cX6_takeFrom 29 = .ok (.getfield 18, 3) := by decide +kernel
theorem dX6_takeFrom_32 : decode cX6_takeFrom 32 = .ok (.iconst 0, 1) := by decide +kernel
theorem dX6_takeFrom_33 : decode cX6_takeFrom 33 = .ok (.aload_n 0, 1) := by decide +kernel
theorem dX6_takeFrom_34 : decode cX6_takeFrom 34 = .ok (.getfield 18, 3) := by decide +kernel
theorem dX6_takeFrom_37 : decode cX6_takeFrom 37 = .ok (.iconst 0, 1) := by decide +kernel
theorem dX6_takeFrom_38 : decode cX6_takeFrom 38 = .ok (.bipush 30, 2) := by decide +kernel
theorem dX6_takeFrom_40 : decode cX6_takeFrom 40 = .ok (.invokestatic 37, 3) := by decide +kernel
theorem dX6_takeFrom_43 : decode cX6_takeFrom 43 = .ok (.aload_n 1, 1) := by decide +kernel
theorem dX6_takeFrom_44 : decode cX6_takeFrom 44 = .ok (.getfield 21, 3) := by decide +kernel
theorem dX6_takeFrom_47 : decode cX6_takeFrom 47 = .ok (.iconst 0, 1) := by decide +kernel
theorem dX6_takeFrom_48 : decode cX6_takeFrom 48 = .ok (.aload_n 0, 1) := by decide +kernel
theorem dX6_takeFrom_49 : decode cX6_takeFrom 49 = .ok (.getfield 21, 3) := by decide +kernel
theorem dX6_takeFrom_52 : decode cX6_takeFrom 52 = .ok (.iconst 0, 1) := by decide +kernel
theorem dX6_takeFrom_53 : decode cX6_takeFrom 53 = .ok (.bipush 6, 2) := by decide +kernel
theorem dX6_takeFrom_55 : decode cX6_takeFrom 55 = .ok (.invokestatic 37, 3) := by decide +kernel
theorem dX6_takeFrom_58 : decode cX6_takeFrom 58 = .ok (.return_, 1) := by decide +kernel
theorem dX7_init_0 : decode cX7_init 0 = .ok (.aload_n 0, 1) := by decide +kernel
theorem dX7_init_1 : decode cX7_init 1 = .ok (.invokespecial 3, 3) := by decide +kernel
theorem dX7_init_4 : decode cX7_init 4 = .ok (.aload_n 0, 1) := by decide +kernel
theorem dX7_init_5 : decode cX7_init 5 = .ok (.bipush 84, 2) := by decide +kernel
theorem dX7_init_7 : decode cX7_init 7 = .ok (.newarray .int, 2) := by decide +kernel
theorem dX7_init_9 : decode cX7_init 9 = .ok (.putfield 11, 3) := by decide +kernel
theorem dX7_init_12 : decode cX7_init 12 = .ok (.return_, 1) := by decide +kernel
theorem dX7_isKind_0 : decode cX7_isKind 0 = .ok (.iload_n 0, 1) := by decide +kernel
theorem dX7_isKind_1 : decode cX7_isKind 1 = .ok (.ifCond .lt 13, 3) := by decide +kernel
theorem dX7_isKind_4 : decode cX7_isKind 4 = .ok (.iload_n 0, 1) := by decide +kernel
theorem dX7_isKind_5 : decode cX7_isKind 5 = .ok (.bipush 7, 2) := by decide +kernel
theorem dX7_isKind_7 : decode cX7_isKind 7 = .ok (.if_icmp .ge 7, 3) := by decide +kernel
theorem dX7_isKind_10 : decode cX7_isKind 10 = .ok (.iconst 1, 1) := by decide +kernel
theorem dX7_isKind_11 : decode cX7_isKind 11 = .ok (.goto 4, 3) := by decide +kernel
theorem dX7_isKind_14 : decode cX7_isKind 14 = .ok (.iconst 0, 1) := by decide +kernel
theorem dX7_isKind_15 : decode cX7_isKind 15 = .ok (.ireturn, 1) := by decide +kernel
theorem dX7_size_0 : decode cX7_size 0 = .ok (.aload_n 0, 1) := by decide +kernel
theorem dX7_size_1 : decode cX7_size 1 = .ok (.getfield 15, 3) := by decide +kernel
theorem dX7_size_4 : decode cX7_size 4 = .ok (.ireturn, 1) := by decide +kernel
theorem dX7_isTerm_0 : decode cX7_isTerm 0 = .ok (.iload_n 1, 1) := by decide +kernel
theorem dX7_isTerm_1 : decode cX7_isTerm 1 = .ok (.ifCond .lt 15, 3) := by decide +kernel
theorem dX7_isTerm_4 : decode cX7_isTerm 4 = .ok (.iload_n 1, 1) := by decide +kernel
theorem dX7_isTerm_5 : decode cX7_isTerm 5 = .ok (.aload_n 0, 1) := by decide +kernel
theorem dX7_isTerm_6 : decode cX7_isTerm 6 = .ok (.getfield 15, 3) := by decide +kernel
theorem dX7_isTerm_9 : decode cX7_isTerm 9 = .ok (.if_icmp .ge 7, 3) := by decide +kernel
theorem dX7_isTerm_12 : decode cX7_isTerm 12 = .ok (.iconst 1, 1) := by decide +kernel
theorem dX7_isTerm_13 : decode cX7_isTerm 13 = .ok (.goto 4, 3) := by decide +kernel
theorem dX7_isTerm_16 : decode cX7_isTerm 16 = .ok (.iconst 0, 1) := by decide +kernel
theorem dX7_isTerm_17 : decode cX7_isTerm 17 = .ok (.ireturn, 1) := by decide +kernel
theorem dX7_field_0 : decode cX7_field 0 = .ok (.aload_n 0, 1) := by decide +kernel
theorem dX7_field_1 : decode cX7_field 1 = .ok (.getfield 11, 3) := by decide +kernel
theorem dX7_field_4 : decode cX7_field 4 = .ok (.iload_n 1, 1) := by decide +kernel
theorem dX7_field_5 : decode cX7_field 5 = .ok (.bipush 7, 2) := by decide +kernel
theorem dX7_field_7 : decode cX7_field 7 = .ok (.imul, 1) := by decide +kernel
theorem dX7_field_8 : decode cX7_field 8 = .ok (.iload_n 2, 1) := by decide +kernel
theorem dX7_field_9 : decode cX7_field 9 = .ok (.iadd, 1) := by decide +kernel
theorem dX7_field_10 : decode cX7_field 10 = .ok (.iaload, 1) := by decide +kernel
theorem dX7_field_11 : decode cX7_field 11 = .ok (.ireturn, 1) := by decide +kernel
theorem dX7_howManyOf_0 : decode cX7_howManyOf 0 = .ok (.iconst 0, 1) := by decide +kernel
theorem dX7_howManyOf_1 : decode cX7_howManyOf 1 = .ok (.istore_n 2, 1) := by decide +kernel
theorem dX7_howManyOf_2 : decode cX7_howManyOf 2 = .ok (.iconst 0, 1) := by decide +kernel
theorem dX7_howManyOf_3 : decode cX7_howManyOf 3 = .ok (.istore_n 3, 1) := by decide +kernel
theorem dX7_howManyOf_4 : decode cX7_howManyOf 4 = .ok (.iload_n 3, 1) := by decide +kernel
theorem dX7_howManyOf_5 : decode cX7_howManyOf 5 = .ok (.aload_n 0, 1) := by decide +kernel
theorem dX7_howManyOf_6 : decode cX7_howManyOf 6 = .ok (.getfield 15, 3) := by decide +kernel
theorem dX7_howManyOf_9 : decode cX7_howManyOf 9 = .ok (.if_icmp .ge 22, 3) := by decide +kernel
theorem dX7_howManyOf_12 : decode cX7_howManyOf 12 = .ok (.aload_n 0, 1) := by decide +kernel
theorem dX7_howManyOf_13 : decode cX7_howManyOf 13 = .ok (.iload_n 3, 1) := by decide +kernel
theorem dX7_howManyOf_14 : decode cX7_howManyOf 14 = .ok (.iconst 1, 1) := by decide +kernel
theorem dX7_howManyOf_15 : decode cX7_howManyOf 15 = .ok (.invokevirtual 19, 3) := by decide +kernel
theorem dX7_howManyOf_18 : decode cX7_howManyOf 18 = .ok (.iload_n 1, 1) := by decide +kernel
theorem dX7_howManyOf_19 : decode cX7_howManyOf 19 = .ok (.if_icmp .ne 6, 3) := by decide +kernel
theorem dX7_howManyOf_22 : decode cX7_howManyOf 22 = .ok (.iinc 2 1, 3) := by decide +kernel
theorem dX7_howManyOf_25 : decode cX7_howManyOf 25 = .ok (.iinc 3 1, 3) := by decide +kernel
theorem dX7_howManyOf_28 : decode cX7_howManyOf 28 = .ok (.goto (-24), 3) := by decide +kernel
theorem dX7_howManyOf_31 : decode cX7_howManyOf 31 = .ok (.iload_n 2, 1) := by decide +kernel
theorem dX7_howManyOf_32 : decode cX7_howManyOf 32 = .ok (.ireturn, 1) := by decide +kernel
theorem dX7_hasRoomFor_0 : decode cX7_hasRoomFor 0 = .ok (.aload_n 0, 1) := by decide +kernel
theorem dX7_hasRoomFor_1 : decode cX7_hasRoomFor 1 = .ok (.getfield 15, 3) := by decide +kernel
theorem dX7_hasRoomFor_4 : decode cX7_hasRoomFor 4 = .ok (.bipush 12, 2) := by decide +kernel
theorem dX7_hasRoomFor_6 : decode cX7_hasRoomFor 6 = .ok (.if_icmp .ge 16, 3) := by decide +kernel
theorem dX7_hasRoomFor_9 : decode cX7_hasRoomFor 9 = .ok (.aload_n 0, 1) := by decide +kernel
theorem dX7_hasRoomFor_10 : decode cX7_hasRoomFor 10 = .ok (.iload_n 1, 1) := by decide +kernel
theorem dX7_hasRoomFor_11 : decode cX7_hasRoomFor 11 = .ok (.invokevirtual 23, 3) := by decide +kernel
theorem dX7_hasRoomFor_14 : decode cX7_hasRoomFor 14 = .ok (.iconst 5, 1) := by decide +kernel
theorem dX7_hasRoomFor_15 : decode cX7_hasRoomFor 15 = .ok (.if_icmp .ge 7, 3) := by decide +kernel
theorem dX7_hasRoomFor_18 : decode cX7_hasRoomFor 18 = .ok (.iconst 1, 1) := by decide +kernel
theorem dX7_hasRoomFor_19 : decode cX7_hasRoomFor 19 = .ok (.goto 4, 3) := by decide +kernel
theorem dX7_hasRoomFor_22 : decode cX7_hasRoomFor 22 = .ok (.iconst 0, 1) := by decide +kernel
theorem dX7_hasRoomFor_23 : decode cX7_hasRoomFor 23 = .ok (.ireturn, 1) := by decide +kernel
theorem dX7_add_0 : decode cX7_add 0 = .ok (.aload_n 0, 1) := by decide +kernel
theorem dX7_add_1 : decode cX7_add 1 = .ok (.getfield 15, 3) := by decide +kernel
theorem dX7_add_4 : decode cX7_add 4 = .ok (.bipush 7, 2) := by decide +kernel
theorem dX7_add_6 : decode cX7_add 6 = .ok (.imul, 1) := by decide +kernel
theorem dX7_add_7 : decode cX7_add 7 = .ok (.istore 4, 2) := by decide +kernel
theorem dX7_add_9 : decode cX7_add 9 = .ok (.aload_n 0, 1) := by decide +kernel
theorem dX7_add_10 : decode cX7_add 10 = .ok (.getfield 11, 3) := by decide +kernel
theorem dX7_add_13 : decode cX7_add 13 = .ok (.iload 4, 2) := by decide +kernel
theorem dX7_add_15 : decode cX7_add 15 = .ok (.iconst 0, 1) := by decide +kernel
theorem dX7_add_16 : decode cX7_add 16 = .ok (.iadd, 1) := by decide +kernel
theorem dX7_add_17 : decode cX7_add 17 = .ok (.iload_n 1, 1) := by decide +kernel
theorem dX7_add_18 : decode cX7_add 18 = .ok (.iastore, 1) := by decide +kernel
theorem dX7_add_19 : decode cX7_add 19 = .ok (.aload_n 0, 1) := by decide +kernel
theorem dX7_add_20 : decode cX7_add 20 = .ok (.getfield 11, 3) := by decide +kernel
theorem dX7_add_23 : decode cX7_add 23 = .ok (.iload 4, 2) := by decide +kernel
theorem dX7_add_25 : decode cX7_add 25 = .ok (.iconst 1, 1) := by decide +kernel
theorem dX7_add_26 : decode cX7_add 26 = .ok (.iadd, 1) := by decide +kernel
theorem dX7_add_27 : decode cX7_add 27 = .ok (.iload_n 2, 1) := by decide +kernel
theorem dX7_add_28 : decode cX7_add 28 = .ok (.iastore, 1) := by decide +kernel
theorem dX7_add_29 : decode cX7_add 29 = .ok (.aload_n 0, 1) := by decide +kernel
theorem dX7_add_30 : decode cX7_add 30 = .ok (.getfield 11, 3) := by decide +kernel
theorem dX7_add_33 : decode cX7_add 33 = .ok (.iload 4, 2) := by decide +kernel
theorem dX7_add_35 : decode cX7_add 35 = .ok (.iconst 2, 1) := by decide +kernel
theorem dX7_add_36 : decode cX7_add 36 = .ok (.iadd, 1) := by decide +kernel
theorem dX7_add_37 : decode cX7_add 37 = .ok (.iload_n 3, 1) := by decide +kernel
theorem dX7_add_38 : decode cX7_add 38 = .ok (.iastore, 1) := by decide +kernel
theorem dX7_add_39 : decode cX7_add 39 = .ok (.aload_n 0, 1) := by decide +kernel
theorem dX7_add_40 : decode cX7_add 40 = .ok (.dup, 1) := by decide +kernel
theorem dX7_add_41 : decode cX7_add 41 = .ok (.getfield 15, 3) := by decide +kernel
theorem dX7_add_44 : decode cX7_add 44 = .ok (.iconst 1, 1) := by decide +kernel
theorem dX7_add_45 : decode cX7_add 45 = .ok (.iadd, 1) := by decide +kernel
theorem dX7_add_46 : decode cX7_add 46 = .ok (.putfield 15, 3) := by decide +kernel
theorem dX7_add_49 : decode cX7_add 49 = .ok (.aload_n 0, 1) := by decide +kernel
theorem dX7_add_50 : decode cX7_add 50 = .ok (.aload_n 0, 1) := by decide +kernel
theorem dX7_add_51 : decode cX7_add 51 = .ok (.getfield 15, 3) := by decide +kernel
theorem dX7_add_54 : decode cX7_add 54 = .ok (.iconst 1, 1) := by decide +kernel
theorem dX7_add_55 : decode cX7_add 55 = .ok (.isub, 1) := by decide +kernel
theorem dX7_add_56 : decode cX7_add 56 = .ok (.iconst 0, 1) := by decide +kernel
theorem dX7_add_57 : decode cX7_add 57 = .ok (.bipush 23, 2) := by decide +kernel
theorem dX7_add_59 : decode cX7_add 59 = .ok (.invokevirtual 27, 3) := by decide +kernel
theorem dX7_add_62 : decode cX7_add 62 = .ok (.aload_n 0, 1) := by decide +kernel
theorem dX7_add_63 : decode cX7_add 63 = .ok (.aload_n 0, 1) := by decide +kernel
theorem dX7_add_64 : decode cX7_add 64 = .ok (.getfield 15, 3) := by decide +kernel
theorem dX7_add_67 : decode cX7_add 67 = .ok (.iconst 1, 1) := by decide +kernel
theorem dX7_add_68 : decode cX7_add 68 = .ok (.isub, 1) := by decide +kernel
theorem dX7_add_69 : decode cX7_add 69 = .ok (.iconst 0, 1) := by decide +kernel
theorem dX7_add_70 : decode cX7_add 70 = .ok (.bipush 29, 2) := by decide +kernel
theorem dX7_add_72 : decode cX7_add 72 = .ok (.invokevirtual 31, 3) := by decide +kernel
theorem dX7_add_75 : decode cX7_add 75 = .ok (.aload_n 0, 1) := by decide +kernel
theorem dX7_add_76 : decode cX7_add 76 = .ok (.getfield 15, 3) := by decide +kernel
theorem dX7_add_79 : decode cX7_add 79 = .ok (.iconst 1, 1) := by decide +kernel
theorem dX7_add_80 : decode cX7_add 80 = .ok (.isub, 1) := by decide +kernel
theorem dX7_add_81 : decode cX7_add 81 = .ok (.ireturn, 1) := by decide +kernel
theorem dX7_setKind_0 : decode cX7_setKind 0 = .ok (.aload_n 0, 1) := by decide +kernel
theorem dX7_setKind_1 : decode cX7_setKind 1 = .ok (.getfield 11, 3) := by decide +kernel
theorem dX7_setKind_4 : decode cX7_setKind 4 = .ok (.iload_n 1, 1) := by decide +kernel
theorem dX7_setKind_5 : decode cX7_setKind 5 = .ok (.bipush 7, 2) := by decide +kernel
theorem dX7_setKind_7 : decode cX7_setKind 7 = .ok (.imul, 1) := by decide +kernel
theorem dX7_setKind_8 : decode cX7_setKind 8 = .ok (.iconst 0, 1) := by decide +kernel
theorem dX7_setKind_9 : decode cX7_setKind 9 = .ok (.iadd, 1) := by decide +kernel
theorem dX7_setKind_10 : decode cX7_setKind 10 = .ok (.iload_n 2, 1) := by decide +kernel
theorem dX7_setKind_11 : decode cX7_setKind 11 = .ok (.iastore, 1) := by decide +kernel
theorem dX7_setKind_12 : decode cX7_setKind 12 = .ok (.return_, 1) := by decide +kernel
theorem dX7_setHours_0 : decode cX7_setHours 0 = .ok (.aload_n 0, 1) := by decide +kernel
theorem dX7_setHours_1 : decode cX7_setHours 1 = .ok (.getfield 11, 3) := by decide +kernel
theorem dX7_setHours_4 : decode cX7_setHours 4 = .ok (.iload_n 1, 1) := by decide +kernel
theorem dX7_setHours_5 : decode cX7_setHours 5 = .ok (.bipush 7, 2) := by decide +kernel
theorem dX7_setHours_7 : decode cX7_setHours 7 = .ok (.imul, 1) := by decide +kernel
theorem dX7_setHours_8 : decode cX7_setHours 8 = .ok (.iconst 3, 1) := by decide +kernel
theorem dX7_setHours_9 : decode cX7_setHours 9 = .ok (.iadd, 1) := by decide +kernel
theorem dX7_setHours_10 : decode cX7_setHours 10 = .ok (.iload_n 2, 1) := by decide +kernel
theorem dX7_setHours_11 : decode cX7_setHours 11 = .ok (.iastore, 1) := by decide +kernel
theorem dX7_setHours_12 : decode cX7_setHours 12 = .ok (.aload_n 0, 1) := by decide +kernel
theorem dX7_setHours_13 : decode cX7_setHours 13 = .ok (.getfield 11, 3) := by decide +kernel
theorem dX7_setHours_16 : decode cX7_setHours 16 = .ok (.iload_n 1, 1) := by decide +kernel
theorem dX7_setHours_17 : decode cX7_setHours 17 = .ok (.bipush 7, 2) := by decide +kernel
theorem dX7_setHours_19 : decode cX7_setHours 19 = .ok (.imul, 1) := by decide +kernel
theorem dX7_setHours_20 : decode cX7_setHours 20 = .ok (.iconst 4, 1) := by decide +kernel
theorem dX7_setHours_21 : decode cX7_setHours 21 = .ok (.iadd, 1) := by decide +kernel
theorem dX7_setHours_22 : decode cX7_setHours 22 = .ok (.iload_n 3, 1) := by decide +kernel
theorem dX7_setHours_23 : decode cX7_setHours 23 = .ok (.iastore, 1) := by decide +kernel
theorem dX7_setHours_24 : decode cX7_setHours 24 = .ok (.return_, 1) := by decide +kernel
theorem dX7_setDays_0 : decode cX7_setDays 0 = .ok (.aload_n 0, 1) := by decide +kernel
theorem dX7_setDays_1 : decode cX7_setDays 1 = .ok (.getfield 11, 3) := by decide +kernel
theorem dX7_setDays_4 : decode cX7_setDays 4 = .ok (.iload_n 1, 1) := by decide +kernel
theorem dX7_setDays_5 : decode cX7_setDays 5 = .ok (.bipush 7, 2) := by decide +kernel
theorem dX7_setDays_7 : decode cX7_setDays 7 = .ok (.imul, 1) := by decide +kernel
theorem dX7_setDays_8 : decode cX7_setDays 8 = .ok (.iconst 5, 1) := by decide +kernel
theorem dX7_setDays_9 : decode cX7_setDays 9 = .ok (.iadd, 1) := by decide +kernel
theorem dX7_setDays_10 : decode cX7_setDays 10 = .ok (.iload_n 2, 1) := by decide +kernel
theorem dX7_setDays_11 : decode cX7_setDays 11 = .ok (.iastore, 1) := by decide +kernel
theorem dX7_setDays_12 : decode cX7_setDays 12 = .ok (.aload_n 0, 1) := by decide +kernel
theorem dX7_setDays_13 : decode cX7_setDays 13 = .ok (.getfield 11, 3) := by decide +kernel
theorem dX7_setDays_16 : decode cX7_setDays 16 = .ok (.iload_n 1, 1) := by decide +kernel
theorem dX7_setDays_17 : decode cX7_setDays 17 = .ok (.bipush 7, 2) := by decide +kernel
theorem dX7_setDays_19 : decode cX7_setDays 19 = .ok (.imul, 1) := by decide +kernel
theorem dX7_setDays_20 : decode cX7_setDays 20 = .ok (.bipush 6, 2) := by decide +kernel
theorem dX7_setDays_22 : decode cX7_setDays 22 = .ok (.iadd, 1) := by decide +kernel
theorem dX7_setDays_23 : decode cX7_setDays 23 = .ok (.iload_n 3, 1) := by decide +kernel
theorem dX7_setDays_24 : decode cX7_setDays 24 = .ok (.iastore, 1) := by decide +kernel
theorem dX7_setDays_25 : decode cX7_setDays 25 = .ok (.return_, 1) := by decide +kernel
theorem dX7_asked_0 : decode cX7_asked 0 = .ok (.getstatic 34, 3) := by decide +kernel
theorem dX7_asked_3 : decode cX7_asked 3 = .ok (.aload_n 0, 1) := by decide +kernel
theorem dX7_asked_4 : decode cX7_asked 4 = .ok (.iload_n 1, 1) := by decide +kernel
theorem dX7_asked_5 : decode cX7_asked 5 = .ok (.iconst 0, 1) := by decide +kernel
theorem dX7_asked_6 : decode cX7_asked 6 = .ok (.invokevirtual 19, 3) := by decide +kernel
theorem dX7_asked_9 : decode cX7_asked 9 = .ok (.iaload, 1) := by decide +kernel
theorem dX7_asked_10 : decode cX7_asked 10 = .ok (.ireturn, 1) := by decide +kernel
theorem dX7_isOfKind_0 : decode cX7_isOfKind 0 = .ok (.aload_n 0, 1) := by decide +kernel
theorem dX7_isOfKind_1 : decode cX7_isOfKind 1 = .ok (.iload_n 1, 1) := by decide +kernel
theorem dX7_isOfKind_2 : decode cX7_isOfKind 2 = .ok (.iconst 0, 1) := by decide +kernel
theorem dX7_isOfKind_3 : decode cX7_isOfKind 3 = .ok (.invokevirtual 19, 3) := by decide +kernel
theorem dX7_isOfKind_6 : decode cX7_isOfKind 6 = .ok (.istore_n 3, 1) := by decide +kernel
theorem dX7_isOfKind_7 : decode cX7_isOfKind 7 = .ok (.iconst 0, 1) := by decide +kernel
theorem dX7_isOfKind_8 : decode cX7_isOfKind 8 = .ok (.istore 4, 2) := by decide +kernel
theorem dX7_isOfKind_10 : decode cX7_isOfKind 10 = .ok (.iload 4, 2) := by decide +kernel
theorem dX7_isOfKind_12 : decode cX7_isOfKind 12 = .ok (.bipush 7, 2) := by decide +kernel
theorem dX7_isOfKind_14 : decode cX7_isOfKind 14 = .ok (.if_icmp .ge 27, 3) := by decide +kernel
theorem dX7_isOfKind_17 : decode cX7_isOfKind 17 = .ok (.iload_n 3, 1) := by decide +kernel
theorem dX7_isOfKind_18 : decode cX7_isOfKind 18 = .ok (.iconst (-1), 1) := by decide +kernel
theorem dX7_isOfKind_19 : decode cX7_isOfKind 19 = .ok (.if_icmp .eq 22, 3) := by decide +kernel
theorem dX7_isOfKind_22 : decode cX7_isOfKind 22 = .ok (.iload_n 3, 1) := by decide +kernel
theorem dX7_isOfKind_23 : decode cX7_isOfKind 23 = .ok (.iload_n 2, 1) := by decide +kernel
theorem dX7_isOfKind_24 : decode cX7_isOfKind 24 = .ok (.if_icmp .ne 5, 3) := by decide +kernel
theorem dX7_isOfKind_27 : decode cX7_isOfKind 27 = .ok (.iconst 1, 1) := by decide +kernel
theorem dX7_isOfKind_28 : decode cX7_isOfKind 28 = .ok (.ireturn, 1) := by decide +kernel
theorem dX7_isOfKind_29 : decode cX7_isOfKind 29 = .ok (.getstatic 37, 3) := by decide +kernel
theorem dX7_isOfKind_32 : decode cX7_isOfKind 32 = .ok (.iload_n 3, 1) := by decide +kernel
theorem dX7_isOfKind_33 : decode cX7_isOfKind 33 = .ok (.iaload, 1) := by decide +kernel
theorem dX7_isOfKind_34 : decode cX7_isOfKind 34 = .ok (.istore_n 3, 1) := by decide +kernel
theorem dX7_isOfKind_35 : decode cX7_isOfKind 35 = .ok (.iinc 4 1, 3) := by decide +kernel
theorem dX7_isOfKind_38 : decode cX7_isOfKind 38 = .ok (.goto (-28), 3) := by decide +kernel
theorem dX7_isOfKind_41 : decode cX7_isOfKind 41 = .ok (.iconst 0, 1) := by decide +kernel
theorem dX7_isOfKind_42 : decode cX7_isOfKind 42 = .ok (.ireturn, 1) := by decide +kernel
theorem dX7_isBinding_0 : decode cX7_isBinding 0 = .ok (.iload_n 2, 1) := by decide +kernel
theorem dX7_isBinding_1 : decode cX7_isBinding 1 = .ok (.aload_n 0, 1) := by decide +kernel
theorem dX7_isBinding_2 : decode cX7_isBinding 2 = .ok (.iload_n 1, 1) := by decide +kernel
theorem dX7_isBinding_3 : decode cX7_isBinding 3 = .ok (.iconst 5, 1) := by decide +kernel
theorem dX7_isBinding_4 : decode cX7_isBinding 4 = .ok (.invokevirtual 19, 3) := by decide +kernel
theorem dX7_isBinding_7 : decode cX7_isBinding 7 = .ok (.if_icmp .lt 14, 3) := by decide +kernel
theorem dX7_isBinding_10 : decode cX7_isBinding 10 = .ok (.iload_n 2, 1) := by decide +kernel
theorem dX7_isBinding_11 : decode cX7_isBinding 11 = .ok (.aload_n 0, 1) := by decide +kernel
theorem dX7_isBinding_12 : decode cX7_isBinding 12 = .ok (.iload_n 1, 1) := by decide +kernel
theorem dX7_isBinding_13 : decode cX7_isBinding 13 = .ok (.bipush 6, 2) := by decide +kernel
theorem dX7_isBinding_15 : decode cX7_isBinding 15 = .ok (.invokevirtual 19, 3) := by decide +kernel
theorem dX7_isBinding_18 : decode cX7_isBinding 18 = .ok (.if_icmp .le 5, 3) := by decide +kernel
theorem dX7_isBinding_21 : decode cX7_isBinding 21 = .ok (.iconst 0, 1) := by decide +kernel
theorem dX7_isBinding_22 : decode cX7_isBinding 22 = .ok (.ireturn, 1) := by decide +kernel
theorem dX7_isBinding_23 : decode cX7_isBinding 23 = .ok (.aload_n 0, 1) := by decide +kernel
theorem dX7_isBinding_24 : decode cX7_isBinding 24 = .ok (.iload_n 1, 1) := by decide +kernel
theorem dX7_isBinding_25 : decode cX7_isBinding 25 = .ok (.iconst 0, 1) := by decide +kernel
theorem dX7_isBinding_26 : decode cX7_isBinding 26 = .ok (.invokevirtual 19, 3) := by decide +kernel
theorem dX7_isBinding_29 : decode cX7_isBinding 29 = .ok (.iconst 5, 1) := by decide +kernel
theorem dX7_isBinding_30 : decode cX7_isBinding 30 = .ok (.if_icmp .ne 11, 3) := by decide +kernel
theorem dX7_isBinding_33 : decode cX7_isBinding 33 = .ok (.iload_n 2, 1) := by decide +kernel
theorem dX7_isBinding_34 : decode cX7_isBinding 34 = .ok (.bipush 7, 2) := by decide +kernel
theorem dX7_isBinding_36 : decode cX7_isBinding 36 = .ok (.irem, 1) := by decide +kernel
theorem dX7_isBinding_37 : decode cX7_isBinding 37 = .ok (.iconst 5, 1) := by decide +kernel
theorem dX7_isBinding_38 : decode cX7_isBinding 38 = .ok (.if_icmp .ge 7, 3) := by decide +kernel
theorem dX7_isBinding_41 : decode cX7_isBinding 41 = .ok (.iconst 1, 1) := by decide +kernel
theorem dX7_isBinding_42 : decode cX7_isBinding 42 = .ok (.goto 4, 3) := by decide +kernel
theorem dX7_isBinding_45 : decode cX7_isBinding 45 = .ok (.iconst 0, 1) := by decide +kernel
theorem dX7_isBinding_46 : decode cX7_isBinding 46 = .ok (.ireturn, 1) := by decide +kernel
theorem dX7_binding_0 : decode cX7_binding 0 = .ok (.iconst 0, 1) := by decide +kernel
theorem dX7_binding_1 : decode cX7_binding 1 = .ok (.istore_n 3, 1) := by decide +kernel
theorem dX7_binding_2 : decode cX7_binding 2 = .ok (.iconst 0, 1) := by decide +kernel
theorem dX7_binding_3 : decode cX7_binding 3 = .ok (.istore 4, 2) := by decide +kernel
theorem dX7_binding_5 : decode cX7_binding 5 = .ok (.iload 4, 2) := by decide +kernel
theorem dX7_binding_7 : decode cX7_binding 7 = .ok (.aload_n 0, 1) := by decide +kernel
theorem dX7_binding_8 : decode cX7_binding 8 = .ok (.getfield 15, 3) := by decide +kernel
theorem dX7_binding_11 : decode cX7_binding 11 = .ok (.if_icmp .ge 37, 3) := by decide +kernel
theorem dX7_binding_14 : decode cX7_binding 14 = .ok (.aload_n 0, 1) := by decide +kernel
theorem dX7_binding_15 : decode cX7_binding 15 = .ok (.iload 4, 2) := by decide +kernel
theorem dX7_binding_17 : decode cX7_binding 17 = .ok (.iconst 1, 1) := by decide +kernel
theorem dX7_binding_18 : decode cX7_binding 18 = .ok (.invokevirtual 19, 3) := by decide +kernel
theorem dX7_binding_21 : decode cX7_binding 21 = .ok (.iload_n 1, 1) := by decide +kernel
theorem dX7_binding_22 : decode cX7_binding 22 = .ok (.if_icmp .ne 20, 3) := by decide +kernel
theorem dX7_binding_25 : decode cX7_binding 25 = .ok (.aload_n 0, 1) := by decide +kernel
theorem dX7_binding_26 : decode cX7_binding 26 = .ok (.iload 4, 2) := by decide +kernel
theorem dX7_binding_28 : decode cX7_binding 28 = .ok (.iload_n 2, 1) := by decide +kernel
theorem dX7_binding_29 : decode cX7_binding 29 = .ok (.invokevirtual 40, 3) := by decide +kernel
theorem dX7_binding_32 : decode cX7_binding 32 = .ok (.ifCond .eq 10, 3) := by decide +kernel
theorem dX7_binding_35 : decode cX7_binding 35 = .ok (.iload_n 3, 1) := by decide +kernel
theorem dX7_binding_36 : decode cX7_binding 36 = .ok (.iconst 1, 1) := by decide +kernel
theorem dX7_binding_37 : decode cX7_binding 37 = .ok (.iload 4, 2) := by decide +kernel
theorem dX7_binding_39 : decode cX7_binding 39 = .ok (.ishl, 1) := by decide +kernel
theorem dX7_binding_40 : decode cX7_binding 40 = .ok (.ior, 1) := by decide +kernel
theorem dX7_binding_41 : decode cX7_binding 41 = .ok (.istore_n 3, 1) := by decide +kernel
theorem dX7_binding_42 : decode cX7_binding 42 = .ok (.iinc 4 1, 3) := by decide +kernel
theorem dX7_binding_45 : decode cX7_binding 45 = .ok (.goto (-40), 3) := by decide +kernel
theorem dX7_binding_48 : decode cX7_binding 48 = .ok (.iload_n 3, 1) := by decide +kernel
theorem dX7_binding_49 : decode cX7_binding 49 = .ok (.ireturn, 1) := by decide +kernel
theorem dX7_takeFrom_0 : decode cX7_takeFrom 0 = .ok (.aload_n 1, 1) := by decide +kernel
theorem dX7_takeFrom_1 : decode cX7_takeFrom 1 = .ok (.getfield 11, 3) := by decide +kernel
theorem dX7_takeFrom_4 : decode cX7_takeFrom 4 = .ok (.iconst 0, 1) := by decide +kernel
theorem dX7_takeFrom_5 : decode cX7_takeFrom 5 = .ok (.aload_n 0, 1) := by decide +kernel
theorem dX7_takeFrom_6 : decode cX7_takeFrom 6 = .ok (.getfield 11, 3) := by decide +kernel
theorem dX7_takeFrom_9 : decode cX7_takeFrom 9 = .ok (.iconst 0, 1) := by decide +kernel
theorem dX7_takeFrom_10 : decode cX7_takeFrom 10 = .ok (.bipush 84, 2) := by decide +kernel
theorem dX7_takeFrom_12 : decode cX7_takeFrom 12 = .ok (.invokestatic 44, 3) := by decide +kernel
theorem dX7_takeFrom_15 : decode cX7_takeFrom 15 = .ok (.aload_n 0, 1) := by decide +kernel
theorem dX7_takeFrom_16 : decode cX7_takeFrom 16 = .ok (.aload_n 1, 1) := by decide +kernel
theorem dX7_takeFrom_17 : decode cX7_takeFrom 17 = .ok (.getfield 15, 3) := by decide +kernel
theorem dX7_takeFrom_20 : decode cX7_takeFrom 20 = .ok (.putfield 15, 3) := by decide +kernel
theorem dX7_takeFrom_23 : decode cX7_takeFrom 23 = .ok (.return_, 1) := by decide +kernel
theorem dX8_init_0 : decode cX8_init 0 = .ok (.aload_n 0, 1) := by decide +kernel
theorem dX8_init_1 : decode cX8_init 1 = .ok (.invokespecial 3, 3) := by decide +kernel
theorem dX8_init_4 : decode cX8_init 4 = .ok (.aload_n 0, 1) := by decide +kernel
theorem dX8_init_5 : decode cX8_init 5 = .ok (.bipush 24, 2) := by decide +kernel
theorem dX8_init_7 : decode cX8_init 7 = .ok (.newarray .int, 2) := by decide +kernel
theorem dX8_init_9 : decode cX8_init 9 = .ok (.putfield 9, 3) := by decide +kernel
theorem dX8_init_12 : decode cX8_init 12 = .ok (.aload_n 0, 1) := by decide +kernel
theorem dX8_init_13 : decode cX8_init 13 = .ok (.iconst 4, 1) := by decide +kernel
theorem dX8_init_14 : decode cX8_init 14 = .ok (.newarray .int, 2) := by decide +kernel
theorem dX8_init_16 : decode cX8_init 16 = .ok (.putfield 15, 3) := by decide +kernel
theorem dX8_init_19 : decode cX8_init 19 = .ok (.return_, 1) := by decide +kernel
theorem dX8_verdict_0 : decode cX8_verdict 0 = .ok (.aload_n 1, 1) := by decide +kernel
theorem dX8_verdict_1 : decode cX8_verdict 1 = .ok (.getfield 18, 3) := by decide +kernel
theorem dX8_verdict_4 : decode cX8_verdict 4 = .ok (.aload_n 1, 1) := by decide +kernel
theorem dX8_verdict_5 : decode cX8_verdict 5 = .ok (.getfield 24, 3) := by decide +kernel
theorem dX8_verdict_8 : decode cX8_verdict 8 = .ok (.iload_n 2, 1) := by decide +kernel
theorem dX8_verdict_9 : decode cX8_verdict 9 = .ok (.iconst 1, 1) := by decide +kernel
theorem dX8_verdict_10 : decode cX8_verdict 10 = .ok (.invokevirtual 30, 3) := by decide +kernel
theorem dX8_verdict_13 : decode cX8_verdict 13 = .ok (.iload_n 3, 1) := by decide +kernel
theorem dX8_verdict_14 : decode cX8_verdict 14 = .ok (.aload_n 0, 1) := by decide +kernel
theorem dX8_verdict_15 : decode cX8_verdict 15 = .ok (.getfield 9, 3) := by decide +kernel
theorem dX8_verdict_18 : decode cX8_verdict 18 = .ok (.invokevirtual 34, 3) := by decide +kernel
theorem dX8_verdict_21 : decode cX8_verdict 21 = .ok (.iconst 0, 1) := by decide +kernel
theorem dX8_verdict_22 : decode cX8_verdict 22 = .ok (.istore 4, 2) := by decide +kernel
theorem dX8_verdict_24 : decode cX8_verdict 24 = .ok (.iload 4, 2) := by decide +kernel
theorem dX8_verdict_26 : decode cX8_verdict 26 = .ok (.iconst 3, 1) := by decide +kernel
theorem dX8_verdict_27 : decode cX8_verdict 27 = .ok (.if_icmp .gt 17, 3) := by decide +kernel
theorem dX8_verdict_30 : decode cX8_verdict 30 = .ok (.aload_n 0, 1) := by decide +kernel
theorem dX8_verdict_31 : decode cX8_verdict 31 = .ok (.getfield 15, 3) := by decide +kernel
theorem dX8_verdict_34 : decode cX8_verdict 34 = .ok (.iload 4, 2) := by decide +kernel
theorem dX8_verdict_36 : decode cX8_verdict 36 = .ok (.iconst 0, 1) := by decide +kernel
theorem dX8_verdict_37 : decode cX8_verdict 37 = .ok (.iastore, 1) := by decide +kernel
theorem dX8_verdict_38 : decode cX8_verdict 38 = .ok (.iinc 4 1, 3) := by decide +kernel
theorem dX8_verdict_41 : decode cX8_verdict 41 = .ok (.goto (-17), 3) := by decide +kernel
theorem dX8_verdict_44 : decode cX8_verdict 44 = .ok (.aload_n 0, 1) := by decide +kernel
theorem dX8_verdict_45 : decode cX8_verdict 45 = .ok (.getfield 15, 3) := by decide +kernel
theorem dX8_verdict_48 : decode cX8_verdict 48 = .ok (.aload_n 1, 1) := by decide +kernel
theorem dX8_verdict_49 : decode cX8_verdict 49 = .ok (.getfield 24, 3) := by decide +kernel
theorem dX8_verdict_52 : decode cX8_verdict 52 = .ok (.iload_n 2, 1) := by decide +kernel
theorem dX8_verdict_53 : decode cX8_verdict 53 = .ok (.invokevirtual 40, 3) := by decide +kernel
theorem dX8_verdict_56 : decode cX8_verdict 56 = .ok (.sipush 255, 3) := by decide +kernel
theorem dX8_verdict_59 : decode cX8_verdict 59 = .ok (.iastore, 1) := by decide +kernel
theorem dX8_verdict_60 : decode cX8_verdict 60 = .ok (.aload_n 0, 1) := by decide +kernel
theorem dX8_verdict_61 : decode cX8_verdict 61 = .ok (.iconst 0, 1) := by decide +kernel
theorem dX8_verdict_62 : decode cX8_verdict 62 = .ok (.putfield 44, 3) := by decide +kernel
theorem dX8_verdict_65 : decode cX8_verdict 65 = .ok (.iconst 0, 1) := by decide +kernel
theorem dX8_verdict_66 : decode cX8_verdict 66 = .ok (.istore 4, 2) := by decide +kernel
theorem dX8_verdict_68 : decode cX8_verdict 68 = .ok (.iload 4, 2) := by decide +kernel
theorem dX8_verdict_70 : decode cX8_verdict 70 = .ok (.bipush 24, 2) := by decide +kernel
theorem dX8_verdict_72 : decode cX8_verdict 72 = .ok (.if_icmp .ge 17, 3) := by decide +kernel
theorem dX8_verdict_75 : decode cX8_verdict 75 = .ok (.aload_n 0, 1) := by decide +kernel
theorem dX8_verdict_76 : decode cX8_verdict 76 = .ok (.aload_n 1, 1) := by decide +kernel
theorem dX8_verdict_77 : decode cX8_verdict 77 = .ok (.iload_n 2, 1) := by decide +kernel
theorem dX8_verdict_78 : decode cX8_verdict 78 = .ok (.iload 4, 2) := by decide +kernel
theorem dX8_verdict_80 : decode cX8_verdict 80 = .ok (.invokevirtual 48, 3) := by decide +kernel
theorem dX8_verdict_83 : decode cX8_verdict 83 = .ok (.iinc 4 1, 3) := by decide +kernel
theorem dX8_verdict_86 : decode cX8_verdict 86 = .ok (.goto (-18), 3) := by decide +kernel
theorem dX8_verdict_89 : decode cX8_verdict 89 = .ok (.aload_n 0, 1) := by decide +kernel
theorem dX8_verdict_90 : decode cX8_verdict 90 = .ok (.getfield 44, 3) := by decide +kernel
theorem dX8_verdict_93 : decode cX8_verdict 93 = .ok (.aload_n 0, 1) := by decide +kernel
theorem dX8_verdict_94 : decode cX8_verdict 94 = .ok (.getfield 15, 3) := by decide +kernel
theorem dX8_verdict_97 : decode cX8_verdict 97 = .ok (.iconst 1, 1) := by decide +kernel
theorem dX8_verdict_98 : decode cX8_verdict 98 = .ok (.iaload, 1) := by decide +kernel
theorem dX8_verdict_99 : decode cX8_verdict 99 = .ok (.ior, 1) := by decide +kernel
theorem dX8_verdict_100 : decode cX8_verdict 100 = .ok (.aload_n 0, 1) := by decide +kernel
theorem dX8_verdict_101 : decode cX8_verdict 101 = .ok (.getfield 15, 3) := by decide +kernel
theorem dX8_verdict_104 : decode cX8_verdict 104 = .ok (.iconst 2, 1) := by decide +kernel
theorem dX8_verdict_105 : decode cX8_verdict 105 = .ok (.iaload, 1) := by decide +kernel
theorem dX8_verdict_106 : decode cX8_verdict 106 = .ok (.ior, 1) := by decide +kernel
theorem dX8_verdict_107 : decode cX8_verdict 107 = .ok (.aload_n 0, 1) := by decide +kernel
theorem dX8_verdict_108 : decode cX8_verdict 108 = .ok (.getfield 15, 3) := by decide +kernel
theorem dX8_verdict_111 : decode cX8_verdict 111 = .ok (.iconst 3, 1) := by decide +kernel
theorem dX8_verdict_112 : decode cX8_verdict 112 = .ok (.iaload, 1) := by decide +kernel
theorem dX8_verdict_113 : decode cX8_verdict 113 = .ok (.ior, 1) := by decide +kernel
theorem dX8_verdict_114 : decode cX8_verdict 114 = .ok (.ifCond .eq 7, 3) := by decide +kernel
theorem dX8_verdict_117 : decode cX8_verdict 117 = .ok (.iconst 1, 1) := by decide +kernel
theorem dX8_verdict_118 : decode cX8_verdict 118 = .ok (.goto 4, 3) := by decide +kernel
theorem dX8_verdict_121 : decode cX8_verdict 121 = .ok (.iconst 0, 1) := by decide +kernel
theorem dX8_verdict_122 : decode cX8_verdict 122 = .ok (.istore 4, 2) := by decide +kernel
theorem dX8_verdict_124 : decode cX8_verdict 124 = .ok (.aload_n 0, 1) := by decide +kernel
theorem dX8_verdict_125 : decode cX8_verdict 125 = .ok (.getfield 15, 3) := by decide +kernel
theorem dX8_verdict_128 : decode cX8_verdict 128 = .ok (.iconst 0, 1) := by decide +kernel
theorem dX8_verdict_129 : decode cX8_verdict 129 = .ok (.iaload, 1) := by decide +kernel
theorem dX8_verdict_130 : decode cX8_verdict 130 = .ok (.ifCond .ne 14, 3) := by decide +kernel
theorem dX8_verdict_133 : decode cX8_verdict 133 = .ok (.iload 4, 2) := by decide +kernel
theorem dX8_verdict_135 : decode cX8_verdict 135 = .ok (.ifCond .eq 7, 3) := by decide +kernel
theorem dX8_verdict_138 : decode cX8_verdict 138 = .ok (.iconst 2, 1) := by decide +kernel
theorem dX8_verdict_139 : decode cX8_verdict 139 = .ok (.goto 4, 3) := by decide +kernel
theorem dX8_verdict_142 : decode cX8_verdict 142 = .ok (.iconst 3, 1) := by decide +kernel
theorem dX8_verdict_143 : decode cX8_verdict 143 = .ok (.ireturn, 1) := by decide +kernel
theorem dX8_verdict_144 : decode cX8_verdict 144 = .ok (.iload 4, 2) := by decide +kernel
theorem dX8_verdict_146 : decode cX8_verdict 146 = .ok (.ifCond .eq 7, 3) := by decide +kernel
theorem dX8_verdict_149 : decode cX8_verdict 149 = .ok (.iconst 1, 1) := by decide +kernel
theorem dX8_verdict_150 : decode cX8_verdict 150 = .ok (.goto 4, 3) := by decide +kernel
theorem dX8_verdict_153 : decode cX8_verdict 153 = .ok (.iconst 0, 1) := by decide +kernel
theorem dX8_verdict_154 : decode cX8_verdict 154 = .ok (.ireturn, 1) := by decide +kernel
theorem dX8_goThrough_0 : decode cX8_goThrough 0 = .ok (.iload_n 3, 1) := by decide +kernel
theorem dX8_goThrough_1 : decode cX8_goThrough 1 = .ok (.aload_n 1, 1) := by decide +kernel
theorem dX8_goThrough_2 : decode cX8_goThrough 2 = .ok (.getfield 24, 3) := by decide +kernel
theorem dX8_goThrough_5 : decode cX8_goThrough 5 = .ok (.iload_n 2, 1) := by decide +kernel
theorem dX8_goThrough_6 : decode cX8_goThrough 6 = .ok (.iconst 3, 1) := by decide +kernel
theorem dX8_goThrough_7 : decode cX8_goThrough 7 = .ok (.invokevirtual 30, 3) := by decide +kernel
theorem dX8_goThrough_10 : decode cX8_goThrough 10 = .ok (.if_icmp .lt 20, 3) := by decide +kernel
theorem dX8_goThrough_13 : decode cX8_goThrough 13 = .ok (.iload_n 3, 1) := by decide +kernel
theorem dX8_goThrough_14 : decode cX8_goThrough 14 = .ok (.aload_n 1, 1) := by decide +kernel
theorem dX8_goThrough_15 : decode cX8_goThrough 15 = .ok (.getfield 24, 3) := by decide +kernel
theorem dX8_goThrough_18 : decode cX8_goThrough 18 = .ok (.iload_n 2, 1) := by decide +kernel
theorem dX8_goThrough_19 : decode cX8_goThrough 19 = .ok (.iconst 4, 1) := by decide +kernel
theorem dX8_goThrough_20 : decode cX8_goThrough 20 = .ok (.invokevirtual 30, 3) := by decide +kernel
theorem dX8_goThrough_23 : decode cX8_goThrough 23 = .ok (.if_icmp .gt 7, 3) := by decide +kernel
theorem dX8_goThrough_26 : decode cX8_goThrough 26 = .ok (.iconst 1, 1) := by decide +kernel
theorem dX8_goThrough_27 : decode cX8_goThrough 27 = .ok (.goto 4, 3) := by decide +kernel
theorem dX8_goThrough_30 : decode cX8_goThrough 30 = .ok (.iconst 0, 1) := by decide +kernel
theorem dX8_goThrough_31 : decode cX8_goThrough 31 = .ok (.istore 4, 2) := by decide +kernel
theorem dX8_goThrough_33 : decode cX8_goThrough 33 = .ok (.iload 4, 2) := by decide +kernel
theorem dX8_goThrough_35 : decode cX8_goThrough 35 = .ok (.ifCond .eq 11, 3) := by decide +kernel
theorem dX8_goThrough_38 : decode cX8_goThrough 38 = .ok (.aload_n 1, 1) := by decide +kernel
theorem dX8_goThrough_39 : decode cX8_goThrough 39 = .ok (.iload_n 2, 1) := by decide +kernel
theorem dX8_goThrough_40 : decode cX8_goThrough 40 = .ok (.invokevirtual 52, 3) := by decide +kernel
theorem dX8_goThrough_43 : decode cX8_goThrough 43 = .ok (.goto 4, 3) := by decide +kernel
theorem dX8_goThrough_46 : decode cX8_goThrough 46 = .ok (.iconst 0, 1) := by decide +kernel
theorem dX8_goThrough_47 : decode cX8_goThrough 47 = .ok (.istore 5, 2) := by decide +kernel
theorem dX8_goThrough_49 : decode cX8_goThrough 49 = .ok (.iload 4, 2) := by decide +kernel
theorem dX8_goThrough_51 : decode cX8_goThrough 51 = .ok (.ifCond .eq 17, 3) := by decide +kernel
theorem dX8_goThrough_54 : decode cX8_goThrough 54 = .ok (.iconst 1, 1) := by decide +kernel
theorem dX8_goThrough_55 : decode cX8_goThrough 55 = .ok (.aload_n 1, 1) := by decide +kernel
theorem dX8_goThrough_56 : decode cX8_goThrough 56 = .ok (.getfield 24, 3) := by decide +kernel
theorem dX8_goThrough_59 : decode cX8_goThrough 59 = .ok (.iload_n 2, 1) := by decide +kernel
theorem dX8_goThrough_60 : decode cX8_goThrough 60 = .ok (.iconst 2, 1) := by decide +kernel
theorem dX8_goThrough_61 : decode cX8_goThrough 61 = .ok (.invokevirtual 30, 3) := by decide +kernel
theorem dX8_goThrough_64 : decode cX8_goThrough 64 = .ok (.ishl, 1) := by decide +kernel
theorem dX8_goThrough_65 : decode cX8_goThrough 65 = .ok (.goto 4, 3) := by decide +kernel
theorem dX8_goThrough_68 : decode cX8_goThrough 68 = .ok (.iconst 0, 1) := by decide +kernel
theorem dX8_goThrough_69 : decode cX8_goThrough 69 = .ok (.istore 6, 2) := by decide +kernel
theorem dX8_goThrough_71 : decode cX8_goThrough 71 = .ok (.aload_n 0, 1) := by decide +kernel
theorem dX8_goThrough_72 : decode cX8_goThrough 72 = .ok (.aload_n 1, 1) := by decide +kernel
theorem dX8_goThrough_73 : decode cX8_goThrough 73 = .ok (.getfield 55, 3) := by decide +kernel
theorem dX8_goThrough_76 : decode cX8_goThrough 76 = .ok (.aload_n 0, 1) := by decide +kernel
theorem dX8_goThrough_77 : decode cX8_goThrough 77 = .ok (.getfield 44, 3) := by decide +kernel
theorem dX8_goThrough_80 : decode cX8_goThrough 80 = .ok (.invokevirtual 59, 3) := by decide +kernel
theorem dX8_goThrough_83 : decode cX8_goThrough 83 = .ok (.aload_n 0, 1) := by decide +kernel
theorem dX8_goThrough_84 : decode cX8_goThrough 84 = .ok (.getfield 9, 3) := by decide +kernel
theorem dX8_goThrough_87 : decode cX8_goThrough 87 = .ok (.iload_n 3, 1) := by decide +kernel
theorem dX8_goThrough_88 : decode cX8_goThrough 88 = .ok (.iaload, 1) := by decide +kernel
theorem dX8_goThrough_89 : decode cX8_goThrough 89 = .ok (.iand, 1) := by decide +kernel
theorem dX8_goThrough_90 : decode cX8_goThrough 90 = .ok (.putfield 44, 3) := by decide +kernel
theorem dX8_goThrough_93 : decode cX8_goThrough 93 = .ok (.aload_n 1, 1) := by decide +kernel
theorem dX8_goThrough_94 : decode cX8_goThrough 94 = .ok (.getfield 24, 3) := by decide +kernel
theorem dX8_goThrough_97 : decode cX8_goThrough 97 = .ok (.iload_n 2, 1) := by decide +kernel
theorem dX8_goThrough_98 : decode cX8_goThrough 98 = .ok (.invokevirtual 40, 3) := by decide +kernel
theorem dX8_goThrough_101 : decode cX8_goThrough 101 = .ok (.istore 7, 2) := by decide +kernel
theorem dX8_goThrough_103 : decode cX8_goThrough 103 = .ok (.iconst 0, 1) := by decide +kernel
theorem dX8_goThrough_104 : decode cX8_goThrough 104 = .ok (.istore 8, 2) := by decide +kernel
theorem dX8_goThrough_106 : decode cX8_goThrough 106 = .ok (.iload 8, 2) := by decide +kernel
theorem dX8_goThrough_108 : decode cX8_goThrough 108 = .ok (.iload 7, 2) := by decide +kernel
theorem dX8_goThrough_110 : decode cX8_goThrough 110 = .ok (.if_icmp .gt 101, 3) := by decide +kernel
theorem dX8_goThrough_113 : decode cX8_goThrough 113 = .ok (.aload_n 1, 1) := by decide +kernel
theorem dX8_goThrough_114 : decode cX8_goThrough 114 = .ok (.getfield 55, 3) := by decide +kernel
theorem dX8_goThrough_117 : decode cX8_goThrough 117 = .ok (.aload_n 0, 1) := by decide +kernel
theorem dX8_goThrough_118 : decode cX8_goThrough 118 = .ok (.getfield 15, 3) := by decide +kernel
theorem dX8_goThrough_121 : decode cX8_goThrough 121 = .ok (.iload 8, 2) := by decide +kernel
theorem dX8_goThrough_123 : decode cX8_goThrough 123 = .ok (.iaload, 1) := by decide +kernel
theorem dX8_goThrough_124 : decode cX8_goThrough 124 = .ok (.invokevirtual 59, 3) := by decide +kernel
theorem dX8_goThrough_127 : decode cX8_goThrough 127 = .ok (.aload_n 0, 1) := by decide +kernel
theorem dX8_goThrough_128 : decode cX8_goThrough 128 = .ok (.getfield 9, 3) := by decide +kernel
theorem dX8_goThrough_131 : decode cX8_goThrough 131 = .ok (.iload_n 3, 1) := by decide +kernel
theorem dX8_goThrough_132 : decode cX8_goThrough 132 = .ok (.iaload, 1) := by decide +kernel
theorem dX8_goThrough_133 : decode cX8_goThrough 133 = .ok (.iand, 1) := by decide +kernel
theorem dX8_goThrough_134 : decode cX8_goThrough 134 = .ok (.istore 9, 2) := by decide +kernel
theorem dX8_goThrough_136 : decode cX8_goThrough 136 = .ok (.aload_n 0, 1) := by decide +kernel
theorem dX8_goThrough_137 : decode cX8_goThrough 137 = .ok (.dup, 1) := by decide +kernel
theorem dX8_goThrough_138 : decode cX8_goThrough 138 = .ok (.getfield 44, 3) := by decide +kernel
theorem dX8_goThrough_141 : decode cX8_goThrough 141 = .ok (.iload 9, 2) := by decide +kernel
theorem dX8_goThrough_143 : decode cX8_goThrough 143 = .ok (.iload 5, 2) := by decide +kernel
theorem dX8_goThrough_145 : decode cX8_goThrough 145 = .ok (.iand, 1) := by decide +kernel
theorem dX8_goThrough_146 : decode cX8_goThrough 146 = .ok (.ior, 1) := by decide +kernel
theorem dX8_goThrough_147 : decode cX8_goThrough 147 = .ok (.putfield 44, 3) := by decide +kernel
theorem dX8_goThrough_150 : decode cX8_goThrough 150 = .ok (.aload_n 0, 1) := by decide +kernel
theorem dX8_goThrough_151 : decode cX8_goThrough 151 = .ok (.getfield 15, 3) := by decide +kernel
theorem dX8_goThrough_154 : decode cX8_goThrough 154 = .ok (.iload 8, 2) := by decide +kernel
theorem dX8_goThrough_156 : decode cX8_goThrough 156 = .ok (.iload 9, 2) := by decide +kernel
theorem dX8_goThrough_158 : decode cX8_goThrough 158 = .ok (.iload 5, 2) := by decide +kernel
theorem dX8_goThrough_160 : decode cX8_goThrough 160 = .ok (.iconst (-1), 1) := by decide +kernel
theorem dX8_goThrough_161 : decode cX8_goThrough 161 = .ok (.ixor, 1) := by decide +kernel
theorem dX8_goThrough_162 : decode cX8_goThrough 162 = .ok (.iand, 1) := by decide +kernel
theorem dX8_goThrough_163 : decode cX8_goThrough 163 = .ok (.iastore, 1) := by decide +kernel
theorem dX8_goThrough_164 : decode cX8_goThrough 164 = .ok (.iload 8, 2) := by decide +kernel
theorem dX8_goThrough_166 : decode cX8_goThrough 166 = .ok (.ifCond .le 39, 3) := by decide +kernel
theorem dX8_goThrough_169 : decode cX8_goThrough 169 = .ok (.aload_n 0, 1) := by decide +kernel
theorem dX8_goThrough_170 : decode cX8_goThrough 170 = .ok (.getfield 15, 3) := by decide +kernel
theorem dX8_goThrough_173 : decode cX8_goThrough 173 = .ok (.iload 8, 2) := by decide +kernel
theorem dX8_goThrough_175 : decode cX8_goThrough 175 = .ok (.iconst 1, 1) := by decide +kernel
theorem dX8_goThrough_176 : decode cX8_goThrough 176 = .ok (.isub, 1) := by decide +kernel
theorem dX8_goThrough_177 : decode cX8_goThrough 177 = .ok (.dup2, 1) := by decide +kernel
theorem dX8_goThrough_178 : decode cX8_goThrough 178 = .ok (.iaload, 1) := by decide +kernel
theorem dX8_goThrough_179 : decode cX8_goThrough 179 = .ok (.aload_n 0, 1) := by decide +kernel
theorem dX8_goThrough_180 : decode cX8_goThrough 180 = .ok (.getfield 15, 3) := by decide +kernel
theorem dX8_goThrough_183 : decode cX8_goThrough 183 = .ok (.iload 8, 2) := by decide +kernel
theorem dX8_goThrough_185 : decode cX8_goThrough 185 = .ok (.iaload, 1) := by decide +kernel
theorem dX8_goThrough_186 : decode cX8_goThrough 186 = .ok (.iload 6, 2) := by decide +kernel
theorem dX8_goThrough_188 : decode cX8_goThrough 188 = .ok (.iand, 1) := by decide +kernel
theorem dX8_goThrough_189 : decode cX8_goThrough 189 = .ok (.ior, 1) := by decide +kernel
theorem dX8_goThrough_190 : decode cX8_goThrough 190 = .ok (.iastore, 1) := by decide +kernel
theorem dX8_goThrough_191 : decode cX8_goThrough 191 = .ok (.aload_n 0, 1) := by decide +kernel
theorem dX8_goThrough_192 : decode cX8_goThrough 192 = .ok (.getfield 15, 3) := by decide +kernel
theorem dX8_goThrough_195 : decode cX8_goThrough 195 = .ok (.iload 8, 2) := by decide +kernel
theorem dX8_goThrough_197 : decode cX8_goThrough 197 = .ok (.dup2, 1) := by decide +kernel
theorem dX8_goThrough_198 : decode cX8_goThrough 198 = .ok (.iaload, 1) := by decide +kernel
theorem dX8_goThrough_199 : decode cX8_goThrough 199 = .ok (.iload 6, 2) := by decide +kernel
theorem dX8_goThrough_201 : decode cX8_goThrough 201 = .ok (.iconst (-1), 1) := by decide +kernel
theorem dX8_goThrough_202 : decode cX8_goThrough 202 = .ok (.ixor, 1) := by decide +kernel
theorem dX8_goThrough_203 : decode cX8_goThrough 203 = .ok (.iand, 1) := by decide +kernel
theorem dX8_goThrough_204 : decode cX8_goThrough 204 = .ok (.iastore, 1) := by decide +kernel
theorem dX8_goThrough_205 : decode cX8_goThrough 205 = .ok (.iinc 8 1, 3) := by decide +kernel
theorem dX8_goThrough_208 : decode cX8_goThrough 208 = .ok (.goto (-102), 3) := by decide +kernel
theorem dX8_goThrough_211 : decode cX8_goThrough 211 = .ok (.return_, 1) := by decide +kernel
theorem dX9_init_0 : decode cX9_init 0 = .ok (.aload_n 0, 1) := by decide +kernel
theorem dX9_init_1 : decode cX9_init 1 = .ok (.invokespecial 1, 3) := by decide +kernel
theorem dX9_init_4 : decode cX9_init 4 = .ok (.aload_n 0, 1) := by decide +kernel
theorem dX9_init_5 : decode cX9_init 5 = .ok (.new 7, 3) := by decide +kernel
theorem dX9_init_8 : decode cX9_init 8 = .ok (.dup, 1) := by decide +kernel
theorem dX9_init_9 : decode cX9_init 9 = .ok (.invokespecial 9, 3) := by decide +kernel
theorem dX9_init_12 : decode cX9_init 12 = .ok (.putfield 10, 3) := by decide +kernel
theorem dX9_init_15 : decode cX9_init 15 = .ok (.aload_n 0, 1) := by decide +kernel
theorem dX9_init_16 : decode cX9_init 16 = .ok (.new 7, 3) := by decide +kernel
theorem dX9_init_19 : decode cX9_init 19 = .ok (.dup, 1) := by decide +kernel
theorem dX9_init_20 : decode cX9_init 20 = .ok (.invokespecial 9, 3) := by decide +kernel
theorem dX9_init_23 : decode cX9_init 23 = .ok (.putfield 16, 3) := by decide +kernel
theorem dX9_init_26 : decode cX9_init 26 = .ok (.aload_n 0, 1) := by decide +kernel
theorem dX9_init_27 : decode cX9_init 27 = .ok (.bipush 7, 2) := by decide +kernel
theorem dX9_init_29 : decode cX9_init 29 = .ok (.newarray .int, 2) := by decide +kernel
theorem dX9_init_31 : decode cX9_init 31 = .ok (.putfield 19, 3) := by decide +kernel
theorem dX9_init_34 : decode cX9_init 34 = .ok (.aload_n 0, 1) := by decide +kernel
theorem dX9_init_35 : decode cX9_init 35 = .ok (.new 23, 3) := by decide +kernel
theorem dX9_init_38 : decode cX9_init 38 = .ok (.dup, 1) := by decide +kernel
theorem dX9_init_39 : decode cX9_init 39 = .ok (.invokespecial 25, 3) := by decide +kernel
theorem dX9_init_42 : decode cX9_init 42 = .ok (.putfield 26, 3) := by decide +kernel
theorem dX9_init_45 : decode cX9_init 45 = .ok (.aload_n 0, 1) := by decide +kernel
theorem dX9_init_46 : decode cX9_init 46 = .ok (.new 30, 3) := by decide +kernel
theorem dX9_init_49 : decode cX9_init 49 = .ok (.dup, 1) := by decide +kernel
theorem dX9_init_50 : decode cX9_init 50 = .ok (.invokespecial 32, 3) := by decide +kernel
theorem dX9_init_53 : decode cX9_init 53 = .ok (.putfield 33, 3) := by decide +kernel
theorem dX9_init_56 : decode cX9_init 56 = .ok (.aload_n 0, 1) := by decide +kernel
theorem dX9_init_57 : decode cX9_init 57 = .ok (.new 37, 3) := by decide +kernel
theorem dX9_init_60 : decode cX9_init 60 = .ok (.dup, 1) := by decide +kernel
theorem dX9_init_61 : decode cX9_init 61 = .ok (.invokespecial 39, 3) := by decide +kernel
theorem dX9_init_64 : decode cX9_init 64 = .ok (.putfield 40, 3) := by decide +kernel
theorem dX9_init_67 : decode cX9_init 67 = .ok (.aload_n 0, 1) := by decide +kernel
theorem dX9_init_68 : decode cX9_init 68 = .ok (.new 44, 3) := by decide +kernel
theorem dX9_init_71 : decode cX9_init 71 = .ok (.dup, 1) := by decide +kernel
theorem dX9_init_72 : decode cX9_init 72 = .ok (.invokespecial 46, 3) := by decide +kernel
theorem dX9_init_75 : decode cX9_init 75 = .ok (.putfield 47, 3) := by decide +kernel
theorem dX9_init_78 : decode cX9_init 78 = .ok (.aload_n 0, 1) := by decide +kernel
theorem dX9_init_79 : decode cX9_init 79 = .ok (.bipush 24, 2) := by decide +kernel
theorem dX9_init_81 : decode cX9_init 81 = .ok (.newarray .int, 2) := by decide +kernel
theorem dX9_init_83 : decode cX9_init 83 = .ok (.putfield 51, 3) := by decide +kernel
theorem dX9_init_86 : decode cX9_init 86 = .ok (.return_, 1) := by decide +kernel
theorem dX9_road_0 : decode cX9_road 0 = .ok (.iload_n 1, 1) := by decide +kernel
theorem dX9_road_1 : decode cX9_road 1 = .ok (.invokestatic 54, 3) := by decide +kernel
theorem dX9_road_4 : decode cX9_road 4 = .ok (.ifCond .eq 15, 3) := by decide +kernel
theorem dX9_road_7 : decode cX9_road 7 = .ok (.iload_n 2, 1) := by decide +kernel
theorem dX9_road_8 : decode cX9_road 8 = .ok (.invokestatic 54, 3) := by decide +kernel
theorem dX9_road_11 : decode cX9_road 11 = .ok (.ifCond .eq 8, 3) := by decide +kernel
theorem dX9_road_14 : decode cX9_road 14 = .ok (.iload_n 1, 1) := by decide +kernel
theorem dX9_road_15 : decode cX9_road 15 = .ok (.iload_n 2, 1) := by decide +kernel
theorem dX9_road_16 : decode cX9_road 16 = .ok (.if_icmp .ne 9, 3) := by decide +kernel
theorem dX9_road_19 : decode cX9_road 19 = .ok (.aload_n 0, 1) := by decide +kernel
theorem dX9_road_20 : decode cX9_road 20 = .ok (.iconst 0, 1) := by decide +kernel
theorem dX9_road_21 : decode cX9_road 21 = .ok (.invokevirtual 58, 3) := by decide +kernel
theorem dX9_road_24 : decode cX9_road 24 = .ok (.ireturn, 1) := by decide +kernel
theorem dX9_road_25 : decode cX9_road 25 = .ok (.aload_n 0, 1) := by decide +kernel
theorem dX9_road_26 : decode cX9_road 26 = .ok (.getfield 10, 3) := by decide +kernel
theorem dX9_road_29 : decode cX9_road 29 = .ok (.getfield 62, 3) := by decide +kernel
theorem dX9_road_32 : decode cX9_road 32 = .ok (.iload_n 1, 1) := by decide +kernel
theorem dX9_road_33 : decode cX9_road 33 = .ok (.iload_n 2, 1) := by decide +kernel
theorem dX9_road_34 : decode cX9_road 34 = .ok (.invokevirtual 66, 3) := by decide +kernel
theorem dX9_road_37 : decode cX9_road 37 = .ok (.ifCond .eq 7, 3) := by decide +kernel
theorem dX9_road_40 : decode cX9_road 40 = .ok (.iconst 1, 1) := by decide +kernel
theorem dX9_road_41 : decode cX9_road 41 = .ok (.goto 4, 3) := by decide +kernel
theorem dX9_road_44 : decode cX9_road 44 = .ok (.iconst 0, 1) := by decide +kernel
theorem dX9_road_45 : decode cX9_road 45 = .ok (.istore 4, 2) := by decide +kernel
theorem dX9_road_47 : decode cX9_road 47 = .ok (.aload_n 0, 1) := by decide +kernel
theorem dX9_road_48 : decode cX9_road 48 = .ok (.getfield 10, 3) := by decide +kernel
theorem dX9_road_51 : decode cX9_road 51 = .ok (.getfield 62, 3) := by decide +kernel
theorem dX9_road_54 : decode cX9_road 54 = .ok (.iload_n 1, 1) := by decide +kernel
theorem dX9_road_55 : decode cX9_road 55 = .ok (.iload_n 2, 1) := by decide +kernel
theorem dX9_road_56 : decode cX9_road 56 = .ok (.iload_n 3, 1) := by decide +kernel
theorem dX9_road_57 : decode cX9_road 57 = .ok (.invokevirtual 72, 3) := by decide +kernel
theorem dX9_road_60 : decode cX9_road 60 = .ok (.iload 4, 2) := by decide +kernel
theorem dX9_road_62 : decode cX9_road 62 = .ok (.ireturn, 1) := by decide +kernel
theorem dX9_roads_0 : decode cX9_roads 0 = .ok (.iload_n 1, 1) := by decide +kernel
theorem dX9_roads_1 : decode cX9_roads 1 = .ok (.invokestatic 54, 3) := by decide +kernel
theorem dX9_roads_4 : decode cX9_roads 4 = .ok (.ifCond .eq 17, 3) := by decide +kernel
theorem dX9_roads_7 : decode cX9_roads 7 = .ok (.aload_n 0, 1) := by decide +kernel
theorem dX9_roads_8 : decode cX9_roads 8 = .ok (.getfield 10, 3) := by decide +kernel
theorem dX9_roads_11 : decode cX9_roads 11 = .ok (.getfield 62, 3) := by decide +kernel
theorem dX9_roads_14 : decode cX9_roads 14 = .ok (.iload_n 1, 1) := by decide +kernel
theorem dX9_roads_15 : decode cX9_roads 15 = .ok (.invokevirtual 76, 3) := by decide +kernel
theorem dX9_roads_18 : decode cX9_roads 18 = .ok (.goto 8, 3) := by decide +kernel
theorem dX9_roads_21 : decode cX9_roads 21 = .ok (.aload_n 0, 1) := by decide +kernel
theorem dX9_roads_22 : decode cX9_roads 22 = .ok (.iconst 0, 1) := by decide +kernel
theorem dX9_roads_23 : decode cX9_roads 23 = .ok (.invokevirtual 58, 3) := by decide +kernel
theorem dX9_roads_26 : decode cX9_roads 26 = .ok (.ireturn, 1) := by decide +kernel
theorem dX9_far_0 : decode cX9_far 0 = .ok (.iload_n 1, 1) := by decide +kernel
theorem dX9_far_1 : decode cX9_far 1 = .ok (.invokestatic 54, 3) := by decide +kernel
