theorem dX3_isDone_0 : decode cX3_isDone 0 = .ok (.aload_n 0, 1) := by decide +kernel
theorem dX3_isDone_1 : decode cX3_isDone 1 = .ok (.getfield 41, 3) := by decide +kernel
theorem dX3_isDone_4 : decode cX3_isDone 4 = .ok (.iconst 2, 1) := by decide +kernel
theorem dX3_isDone_5 : decode cX3_isDone 5 = .ok (.iload_n 1, 1) := by decide +kernel
theorem dX3_isDone_6 : decode cX3_isDone 6 = .ok (.imul, 1) := by decide +kernel
theorem dX3_isDone_7 : decode cX3_isDone 7 = .ok (.iaload, 1) := by decide +kernel
theorem dX3_isDone_8 : decode cX3_isDone 8 = .ok (.istore_n 2, 1) := by decide +kernel
theorem dX3_isDone_9 : decode cX3_isDone 9 = .ok (.aload_n 0, 1) := by decide +kernel
theorem dX3_isDone_10 : decode cX3_isDone 10 = .ok (.getfield 41, 3) := by decide +kernel
theorem dX3_isDone_13 : decode cX3_isDone 13 = .ok (.iconst 2, 1) := by decide +kernel
theorem dX3_isDone_14 : decode cX3_isDone 14 = .ok (.iload_n 1, 1) := by decide +kernel
theorem dX3_isDone_15 : decode cX3_isDone 15 = .ok (.imul, 1) := by decide +kernel
theorem dX3_isDone_16 : decode cX3_isDone 16 = .ok (.iconst 1, 1) := by decide +kernel
theorem dX3_isDone_17 : decode cX3_isDone 17 = .ok (.iadd, 1) := by decide +kernel
theorem dX3_isDone_18 : decode cX3_isDone 18 = .ok (.iaload, 1) := by decide +kernel
theorem dX3_isDone_19 : decode cX3_isDone 19 = .ok (.istore_n 3, 1) := by decide +kernel
theorem dX3_isDone_20 : decode cX3_isDone 20 = .ok (.aload_n 0, 1) := by decide +kernel
theorem dX3_isDone_21 : decode cX3_isDone 21 = .ok (.getfield 38, 3) := by decide +kernel
theorem dX3_isDone_24 : decode cX3_isDone 24 = .ok (.iload_n 1, 1) := by decide +kernel
theorem dX3_isDone_25 : decode cX3_isDone 25 = .ok (.iaload, 1) := by decide +kernel
theorem dX3_isDone_26 : decode cX3_isDone 26 = .ok (.istore 4, 2) := by decide +kernel
theorem dX3_isDone_28 : decode cX3_isDone 28 = .ok (.iload 4, 2) := by decide +kernel
theorem dX3_isDone_30 : decode cX3_isDone 30 = .ok (.bipush 104, 2) := by decide +kernel
theorem dX3_isDone_32 : decode cX3_isDone 32 = .ok (.if_icmp .ne 7, 3) := by decide +kernel
theorem dX3_isDone_35 : decode cX3_isDone 35 = .ok (.iconst 0, 1) := by decide +kernel
theorem dX3_isDone_36 : decode cX3_isDone 36 = .ok (.goto 15, 3) := by decide +kernel
theorem dX3_isDone_39 : decode cX3_isDone 39 = .ok (.iload 4, 2) := by decide +kernel
theorem dX3_isDone_41 : decode cX3_isDone 41 = .ok (.bipush 113, 2) := by decide +kernel
theorem dX3_isDone_43 : decode cX3_isDone 43 = .ok (.if_icmp .ne 7, 3) := by decide +kernel
theorem dX3_isDone_46 : decode cX3_isDone 46 = .ok (.iconst 1, 1) := by decide +kernel
theorem dX3_isDone_47 : decode cX3_isDone 47 = .ok (.goto 4, 3) := by decide +kernel
theorem dX3_isDone_50 : decode cX3_isDone 50 = .ok (.iconst 2, 1) := by decide +kernel
theorem dX3_isDone_51 : decode cX3_isDone 51 = .ok (.istore 5, 2) := by decide +kernel
theorem dX3_isDone_53 : decode cX3_isDone 53 = .ok (.iload 4, 2) := by decide +kernel
theorem dX3_isDone_55 : decode cX3_isDone 55 = .ok (.bipush 108, 2) := by decide +kernel
theorem dX3_isDone_57 : decode cX3_isDone 57 = .ok (.if_icmp .ne 7, 3) := by decide +kernel
theorem dX3_isDone_60 : decode cX3_isDone 60 = .ok (.iconst 0, 1) := by decide +kernel
theorem dX3_isDone_61 : decode cX3_isDone 61 = .ok (.goto 4, 3) := by decide +kernel
theorem dX3_isDone_64 : decode cX3_isDone 64 = .ok (.iconst 1, 1) := by decide +kernel
theorem dX3_isDone_65 : decode cX3_isDone 65 = .ok (.istore 6, 2) := by decide +kernel
theorem dX3_isDone_67 : decode cX3_isDone 67 = .ok (.iload 4, 2) := by decide +kernel
theorem dX3_isDone_69 : decode cX3_isDone 69 = .ok (.tableswitch 206 97 119 #[129, 206, 206, 206, 206, 206, 206, 129, 206, 206, 206, 156, 206, 206, 206, 107, 129, 156, 206, 206, 206, 206, 183], 107) := by decide +kernel
theorem dX3_isDone_176 : decode cX3_isDone 176 = .ok (.aload_n 0, 1) := by decide +kernel
theorem dX3_isDone_177 : decode cX3_isDone 177 = .ok (.iload_n 2, 1) := by decide +kernel
theorem dX3_isDone_178 : decode cX3_isDone 178 = .ok (.invokevirtual 81, 3) := by decide +kernel
theorem dX3_isDone_181 : decode cX3_isDone 181 = .ok (.istore 7, 2) := by decide +kernel
theorem dX3_isDone_183 : decode cX3_isDone 183 = .ok (.iload 7, 2) := by decide +kernel
theorem dX3_isDone_185 : decode cX3_isDone 185 = .ok (.ifCond .eq 10, 3) := by decide +kernel
theorem dX3_isDone_188 : decode cX3_isDone 188 = .ok (.aload_n 0, 1) := by decide +kernel
theorem dX3_isDone_189 : decode cX3_isDone 189 = .ok (.iconst 0, 1) := by decide +kernel
theorem dX3_isDone_190 : decode cX3_isDone 190 = .ok (.iload_n 2, 1) := by decide +kernel
theorem dX3_isDone_191 : decode cX3_isDone 191 = .ok (.invokevirtual 88, 3) := by decide +kernel
theorem dX3_isDone_194 : decode cX3_isDone 194 = .ok (.pop, 1) := by decide +kernel
theorem dX3_isDone_195 : decode cX3_isDone 195 = .ok (.iload 7, 2) := by decide +kernel
theorem dX3_isDone_197 : decode cX3_isDone 197 = .ok (.ireturn, 1) := by decide +kernel
theorem dX3_isDone_198 : decode cX3_isDone 198 = .ok (.aload_n 0, 1) := by decide +kernel
theorem dX3_isDone_199 : decode cX3_isDone 199 = .ok (.iload 5, 2) := by decide +kernel
theorem dX3_isDone_201 : decode cX3_isDone 201 = .ok (.iload_n 2, 1) := by decide +kernel
theorem dX3_isDone_202 : decode cX3_isDone 202 = .ok (.invokevirtual 92, 3) := by decide +kernel
theorem dX3_isDone_205 : decode cX3_isDone 205 = .ok (.istore 7, 2) := by decide +kernel
theorem dX3_isDone_207 : decode cX3_isDone 207 = .ok (.iload 7, 2) := by decide +kernel
theorem dX3_isDone_209 : decode cX3_isDone 209 = .ok (.ifCond .eq 13, 3) := by decide +kernel
theorem dX3_isDone_212 : decode cX3_isDone 212 = .ok (.aload_n 0, 1) := by decide +kernel
theorem dX3_isDone_213 : decode cX3_isDone 213 = .ok (.iconst 1, 1) := by decide +kernel
theorem dX3_isDone_214 : decode cX3_isDone 214 = .ok (.iload 5, 2) := by decide +kernel
theorem dX3_isDone_216 : decode cX3_isDone 216 = .ok (.iadd, 1) := by decide +kernel
theorem dX3_isDone_217 : decode cX3_isDone 217 = .ok (.iload_n 2, 1) := by decide +kernel
theorem dX3_isDone_218 : decode cX3_isDone 218 = .ok (.invokevirtual 88, 3) := by decide +kernel
theorem dX3_isDone_221 : decode cX3_isDone 221 = .ok (.pop, 1) := by decide +kernel
theorem dX3_isDone_222 : decode cX3_isDone 222 = .ok (.iload 7, 2) := by decide +kernel
theorem dX3_isDone_224 : decode cX3_isDone 224 = .ok (.ireturn, 1) := by decide +kernel
theorem dX3_isDone_225 : decode cX3_isDone 225 = .ok (.aload_n 0, 1) := by decide +kernel
theorem dX3_isDone_226 : decode cX3_isDone 226 = .ok (.iload 6, 2) := by decide +kernel
theorem dX3_isDone_228 : decode cX3_isDone 228 = .ok (.iload_n 2, 1) := by decide +kernel
theorem dX3_isDone_229 : decode cX3_isDone 229 = .ok (.invokevirtual 96, 3) := by decide +kernel
theorem dX3_isDone_232 : decode cX3_isDone 232 = .ok (.istore 7, 2) := by decide +kernel
theorem dX3_isDone_234 : decode cX3_isDone 234 = .ok (.iload 7, 2) := by decide +kernel
theorem dX3_isDone_236 : decode cX3_isDone 236 = .ok (.ifCond .eq 13, 3) := by decide +kernel
theorem dX3_isDone_239 : decode cX3_isDone 239 = .ok (.aload_n 0, 1) := by decide +kernel
theorem dX3_isDone_240 : decode cX3_isDone 240 = .ok (.iconst 4, 1) := by decide +kernel
theorem dX3_isDone_241 : decode cX3_isDone 241 = .ok (.iload 6, 2) := by decide +kernel
theorem dX3_isDone_243 : decode cX3_isDone 243 = .ok (.iadd, 1) := by decide +kernel
theorem dX3_isDone_244 : decode cX3_isDone 244 = .ok (.iload_n 2, 1) := by decide +kernel
theorem dX3_isDone_245 : decode cX3_isDone 245 = .ok (.invokevirtual 88, 3) := by decide +kernel
theorem dX3_isDone_248 : decode cX3_isDone 248 = .ok (.pop, 1) := by decide +kernel
theorem dX3_isDone_249 : decode cX3_isDone 249 = .ok (.iload 7, 2) := by decide +kernel
theorem dX3_isDone_251 : decode cX3_isDone 251 = .ok (.ireturn, 1) := by decide +kernel
theorem dX3_isDone_252 : decode cX3_isDone 252 = .ok (.aload_n 0, 1) := by decide +kernel
theorem dX3_isDone_253 : decode cX3_isDone 253 = .ok (.iload_n 2, 1) := by decide +kernel
theorem dX3_isDone_254 : decode cX3_isDone 254 = .ok (.iload_n 3, 1) := by decide +kernel
theorem dX3_isDone_255 : decode cX3_isDone 255 = .ok (.invokevirtual 99, 3) := by decide +kernel
theorem dX3_isDone_258 : decode cX3_isDone 258 = .ok (.istore 7, 2) := by decide +kernel
theorem dX3_isDone_260 : decode cX3_isDone 260 = .ok (.iload 7, 2) := by decide +kernel
theorem dX3_isDone_262 : decode cX3_isDone 262 = .ok (.ifCond .eq 10, 3) := by decide +kernel
theorem dX3_isDone_265 : decode cX3_isDone 265 = .ok (.aload_n 0, 1) := by decide +kernel
theorem dX3_isDone_266 : decode cX3_isDone 266 = .ok (.iload_n 2, 1) := by decide +kernel
theorem dX3_isDone_267 : decode cX3_isDone 267 = .ok (.iload_n 3, 1) := by decide +kernel
theorem dX3_isDone_268 : decode cX3_isDone 268 = .ok (.invokevirtual 102, 3) := by decide +kernel
theorem dX3_isDone_271 : decode cX3_isDone 271 = .ok (.pop, 1) := by decide +kernel
theorem dX3_isDone_272 : decode cX3_isDone 272 = .ok (.iload 7, 2) := by decide +kernel
theorem dX3_isDone_274 : decode cX3_isDone 274 = .ok (.ireturn, 1) := by decide +kernel
theorem dX3_isDone_275 : decode cX3_isDone 275 = .ok (.iload_n 2, 1) := by decide +kernel
theorem dX3_isDone_276 : decode cX3_isDone 276 = .ok (.iconst 1, 1) := by decide +kernel
theorem dX3_isDone_277 : decode cX3_isDone 277 = .ok (.bipush 100, 2) := by decide +kernel
theorem dX3_isDone_279 : decode cX3_isDone 279 = .ok (.invokestatic 74, 3) := by decide +kernel
theorem dX3_isDone_282 : decode cX3_isDone 282 = .ok (.ifCond .eq 22, 3) := by decide +kernel
theorem dX3_isDone_285 : decode cX3_isDone 285 = .ok (.aload_n 0, 1) := by decide +kernel
theorem dX3_isDone_286 : decode cX3_isDone 286 = .ok (.getfield 7, 3) := by decide +kernel
theorem dX3_isDone_289 : decode cX3_isDone 289 = .ok (.bipush 8, 2) := by decide +kernel
theorem dX3_isDone_291 : decode cX3_isDone 291 = .ok (.iaload, 1) := by decide +kernel
theorem dX3_isDone_292 : decode cX3_isDone 292 = .ok (.iload_n 2, 1) := by decide +kernel
theorem dX3_isDone_293 : decode cX3_isDone 293 = .ok (.iadd, 1) := by decide +kernel
theorem dX3_isDone_294 : decode cX3_isDone 294 = .ok (.sipush 999, 3) := by decide +kernel
theorem dX3_isDone_297 : decode cX3_isDone 297 = .ok (.if_icmp .gt 7, 3) := by decide +kernel
theorem dX3_isDone_300 : decode cX3_isDone 300 = .ok (.iconst 1, 1) := by decide +kernel
theorem dX3_isDone_301 : decode cX3_isDone 301 = .ok (.goto 4, 3) := by decide +kernel
theorem dX3_isDone_304 : decode cX3_isDone 304 = .ok (.iconst 0, 1) := by decide +kernel
theorem dX3_isDone_305 : decode cX3_isDone 305 = .ok (.istore 7, 2) := by decide +kernel
theorem dX3_isDone_307 : decode cX3_isDone 307 = .ok (.iload 7, 2) := by decide +kernel
theorem dX3_isDone_309 : decode cX3_isDone 309 = .ok (.ifCond .eq 9, 3) := by decide +kernel
theorem dX3_isDone_312 : decode cX3_isDone 312 = .ok (.aload_n 0, 1) := by decide +kernel
theorem dX3_isDone_313 : decode cX3_isDone 313 = .ok (.iload_n 2, 1) := by decide +kernel
theorem dX3_isDone_314 : decode cX3_isDone 314 = .ok (.invokevirtual 105, 3) := by decide +kernel
theorem dX3_isDone_317 : decode cX3_isDone 317 = .ok (.pop, 1) := by decide +kernel
theorem dX3_isDone_318 : decode cX3_isDone 318 = .ok (.iload 7, 2) := by decide +kernel
theorem dX3_isDone_320 : decode cX3_isDone 320 = .ok (.ireturn, 1) := by decide +kernel
theorem dX3_reads_0 : decode cX3_reads 0 = .ok (.aload_n 0, 1) := by decide +kernel
theorem dX3_reads_1 : decode cX3_reads 1 = .ok (.invokevirtual 179, 3) := by decide +kernel
theorem dX3_reads_4 : decode cX3_reads 4 = .ok (.ifCond .ne 11, 3) := by decide +kernel
theorem dX3_reads_7 : decode cX3_reads 7 = .ok (.bipush (-10), 2) := by decide +kernel
theorem dX3_reads_9 : decode cX3_reads 9 = .ok (.aload_n 0, 1) := by decide +kernel
theorem dX3_reads_10 : decode cX3_reads 10 = .ok (.getfield 155, 3) := by decide +kernel
theorem dX3_reads_13 : decode cX3_reads 13 = .ok (.isub, 1) := by decide +kernel
theorem dX3_reads_14 : decode cX3_reads 14 = .ok (.ireturn, 1) := by decide +kernel
theorem dX3_reads_15 : decode cX3_reads 15 = .ok (.aload_n 0, 1) := by decide +kernel
theorem dX3_reads_16 : decode cX3_reads 16 = .ok (.invokevirtual 139, 3) := by decide +kernel
theorem dX3_reads_19 : decode cX3_reads 19 = .ok (.iconst 0, 1) := by decide +kernel
theorem dX3_reads_20 : decode cX3_reads 20 = .ok (.istore_n 1, 1) := by decide +kernel
theorem dX3_reads_21 : decode cX3_reads 21 = .ok (.iload_n 1, 1) := by decide +kernel
theorem dX3_reads_22 : decode cX3_reads 22 = .ok (.aload_n 0, 1) := by decide +kernel
theorem dX3_reads_23 : decode cX3_reads 23 = .ok (.getfield 168, 3) := by decide +kernel
theorem dX3_reads_26 : decode cX3_reads 26 = .ok (.if_icmp .ge 17, 3) := by decide +kernel
theorem dX3_reads_29 : decode cX3_reads 29 = .ok (.aload_n 0, 1) := by decide +kernel
theorem dX3_reads_30 : decode cX3_reads 30 = .ok (.iload_n 1, 1) := by decide +kernel
theorem dX3_reads_31 : decode cX3_reads 31 = .ok (.invokevirtual 182, 3) := by decide +kernel
theorem dX3_reads_34 : decode cX3_reads 34 = .ok (.ifCond .eq 9, 3) := by decide +kernel
theorem dX3_reads_37 : decode cX3_reads 37 = .ok (.iinc 1 1, 3) := by decide +kernel
theorem dX3_reads_40 : decode cX3_reads 40 = .ok (.goto (-19), 3) := by decide +kernel
theorem dX3_reads_43 : decode cX3_reads 43 = .ok (.iload_n 1, 1) := by decide +kernel
theorem dX3_reads_44 : decode cX3_reads 44 = .ok (.aload_n 0, 1) := by decide +kernel
theorem dX3_reads_45 : decode cX3_reads 45 = .ok (.getfield 168, 3) := by decide +kernel
theorem dX3_reads_48 : decode cX3_reads 48 = .ok (.if_icmp .ge 13, 3) := by decide +kernel
theorem dX3_reads_51 : decode cX3_reads 51 = .ok (.aload_n 0, 1) := by decide +kernel
theorem dX3_reads_52 : decode cX3_reads 52 = .ok (.invokevirtual 142, 3) := by decide +kernel
theorem dX3_reads_55 : decode cX3_reads 55 = .ok (.sipush (-1000), 3) := by decide +kernel
theorem dX3_reads_58 : decode cX3_reads 58 = .ok (.iload_n 1, 1) := by decide +kernel
theorem dX3_reads_59 : decode cX3_reads 59 = .ok (.isub, 1) := by decide +kernel
theorem dX3_reads_60 : decode cX3_reads 60 = .ok (.ireturn, 1) := by decide +kernel
theorem dX3_reads_61 : decode cX3_reads 61 = .ok (.aload_n 0, 1) := by decide +kernel
theorem dX3_reads_62 : decode cX3_reads 62 = .ok (.invokevirtual 185, 3) := by decide +kernel
theorem dX3_reads_65 : decode cX3_reads 65 = .ok (.aload_n 0, 1) := by decide +kernel
theorem dX3_reads_66 : decode cX3_reads 66 = .ok (.invokevirtual 85, 3) := by decide +kernel
theorem dX3_reads_69 : decode cX3_reads 69 = .ok (.aload_n 0, 1) := by decide +kernel
theorem dX3_reads_70 : decode cX3_reads 70 = .ok (.invokevirtual 185, 3) := by decide +kernel
theorem dX3_reads_73 : decode cX3_reads 73 = .ok (.aload_n 0, 1) := by decide +kernel
theorem dX3_reads_74 : decode cX3_reads 74 = .ok (.getfield 168, 3) := by decide +kernel
theorem dX3_reads_77 : decode cX3_reads 77 = .ok (.ireturn, 1) := by decide +kernel
theorem dX3_swapsAside_0 : decode cX3_swapsAside 0 = .ok (.iconst 0, 1) := by decide +kernel
theorem dX3_swapsAside_1 : decode cX3_swapsAside 1 = .ok (.istore_n 1, 1) := by decide +kernel
theorem dX3_swapsAside_2 : decode cX3_swapsAside 2 = .ok (.iload_n 1, 1) := by decide +kernel
theorem dX3_swapsAside_3 : decode cX3_swapsAside 3 = .ok (.bipush 9, 2) := by decide +kernel
theorem dX3_swapsAside_5 : decode cX3_swapsAside 5 = .ok (.if_icmp .ge 35, 3) := by decide +kernel
theorem dX3_swapsAside_8 : decode cX3_swapsAside 8 = .ok (.aload_n 0, 1) := by decide +kernel
theorem dX3_swapsAside_9 : decode cX3_swapsAside 9 = .ok (.getfield 7, 3) := by decide +kernel
theorem dX3_swapsAside_12 : decode cX3_swapsAside 12 = .ok (.iload_n 1, 1) := by decide +kernel
theorem dX3_swapsAside_13 : decode cX3_swapsAside 13 = .ok (.iaload, 1) := by decide +kernel
theorem dX3_swapsAside_14 : decode cX3_swapsAside 14 = .ok (.istore_n 2, 1) := by decide +kernel
theorem dX3_swapsAside_15 : decode cX3_swapsAside 15 = .ok (.aload_n 0, 1) := by decide +kernel
theorem dX3_swapsAside_16 : decode cX3_swapsAside 16 = .ok (.getfield 7, 3) := by decide +kernel
theorem dX3_swapsAside_19 : decode cX3_swapsAside 19 = .ok (.iload_n 1, 1) := by decide +kernel
theorem dX3_swapsAside_20 : decode cX3_swapsAside 20 = .ok (.aload_n 0, 1) := by decide +kernel
theorem dX3_swapsAside_21 : decode cX3_swapsAside 21 = .ok (.getfield 26, 3) := by decide +kernel
theorem dX3_swapsAside_24 : decode cX3_swapsAside 24 = .ok (.iload_n 1, 1) := by decide +kernel
theorem dX3_swapsAside_25 : decode cX3_swapsAside 25 = .ok (.iaload, 1) := by decide +kernel
theorem dX3_swapsAside_26 : decode cX3_swapsAside 26 = .ok (.iastore, 1) := by decide +kernel
theorem dX3_swapsAside_27 : decode cX3_swapsAside 27 = .ok (.aload_n 0, 1) := by decide +kernel
theorem dX3_swapsAside_28 : decode cX3_swapsAside 28 = .ok (.getfield 26, 3) := by decide +kernel
theorem dX3_swapsAside_31 : decode cX3_swapsAside 31 = .ok (.iload_n 1, 1) := by decide +kernel
theorem dX3_swapsAside_32 : decode cX3_swapsAside 32 = .ok (.iload_n 2, 1) := by decide +kernel
theorem dX3_swapsAside_33 : decode cX3_swapsAside 33 = .ok (.iastore, 1) := by decide +kernel
theorem dX3_swapsAside_34 : decode cX3_swapsAside 34 = .ok (.iinc 1 1, 3) := by decide +kernel
theorem dX3_swapsAside_37 : decode cX3_swapsAside 37 = .ok (.goto (-35), 3) := by decide +kernel
theorem dX3_swapsAside_40 : decode cX3_swapsAside 40 = .ok (.iconst 0, 1) := by decide +kernel
theorem dX3_swapsAside_41 : decode cX3_swapsAside 41 = .ok (.istore_n 1, 1) := by decide +kernel
theorem dX3_swapsAside_42 : decode cX3_swapsAside 42 = .ok (.iload_n 1, 1) := by decide +kernel
theorem dX3_swapsAside_43 : decode cX3_swapsAside 43 = .ok (.bipush 45, 2) := by decide +kernel
theorem dX3_swapsAside_45 : decode cX3_swapsAside 45 = .ok (.if_icmp .ge 35, 3) := by decide +kernel
theorem dX3_swapsAside_48 : decode cX3_swapsAside 48 = .ok (.aload_n 0, 1) := by decide +kernel
theorem dX3_swapsAside_49 : decode cX3_swapsAside 49 = .ok (.getfield 13, 3) := by decide +kernel
theorem dX3_swapsAside_52 : decode cX3_swapsAside 52 = .ok (.iload_n 1, 1) := by decide +kernel
theorem dX3_swapsAside_53 : decode cX3_swapsAside 53 = .ok (.daload, 1) := by decide +kernel
theorem dX3_swapsAside_54 : decode cX3_swapsAside 54 = .ok (.dstore_n 2, 1) := by decide +kernel
theorem dX3_swapsAside_55 : decode cX3_swapsAside 55 = .ok (.aload_n 0, 1) := by decide +kernel
theorem dX3_swapsAside_56 : decode cX3_swapsAside 56 = .ok (.getfield 13, 3) := by decide +kernel
theorem dX3_swapsAside_59 : decode cX3_swapsAside 59 = .ok (.iload_n 1, 1) := by decide +kernel
theorem dX3_swapsAside_60 : decode cX3_swapsAside 60 = .ok (.aload_n 0, 1) := by decide +kernel
theorem dX3_swapsAside_61 : decode cX3_swapsAside 61 = .ok (.getfield 29, 3) := by decide +kernel
theorem dX3_swapsAside_64 : decode cX3_swapsAside 64 = .ok (.iload_n 1, 1) := by decide +kernel
theorem dX3_swapsAside_65 : decode cX3_swapsAside 65 = .ok (.daload, 1) := by decide +kernel
theorem dX3_swapsAside_66 : decode cX3_swapsAside 66 = .ok (.dastore, 1) := by decide +kernel
theorem dX3_swapsAside_67 : decode cX3_swapsAside 67 = .ok (.aload_n 0, 1) := by decide +kernel
theorem dX3_swapsAside_68 : decode cX3_swapsAside 68 = .ok (.getfield 29, 3) := by decide +kernel
theorem dX3_swapsAside_71 : decode cX3_swapsAside 71 = .ok (.iload_n 1, 1) := by decide +kernel
theorem dX3_swapsAside_72 : decode cX3_swapsAside 72 = .ok (.dload_n 2, 1) := by decide +kernel
theorem dX3_swapsAside_73 : decode cX3_swapsAside 73 = .ok (.dastore, 1) := by decide +kernel
theorem dX3_swapsAside_74 : decode cX3_swapsAside 74 = .ok (.iinc 1 1, 3) := by decide +kernel
theorem dX3_swapsAside_77 : decode cX3_swapsAside 77 = .ok (.goto (-35), 3) := by decide +kernel
theorem dX3_swapsAside_80 : decode cX3_swapsAside 80 = .ok (.return_, 1) := by decide +kernel
theorem dX3_toldIs_0 : decode cX3_toldIs 0 = .ok (.iload_n 1, 1) := by decide +kernel
theorem dX3_toldIs_1 : decode cX3_toldIs 1 = .ok (.iconst 3, 1) := by decide +kernel
theorem dX3_toldIs_2 : decode cX3_toldIs 2 = .ok (.if_icmp .ge 10, 3) := by decide +kernel
theorem dX3_toldIs_5 : decode cX3_toldIs 5 = .ok (.aload_n 0, 1) := by decide +kernel
theorem dX3_toldIs_6 : decode cX3_toldIs 6 = .ok (.getfield 32, 3) := by decide +kernel
theorem dX3_toldIs_9 : decode cX3_toldIs 9 = .ok (.iload_n 1, 1) := by decide +kernel
theorem dX3_toldIs_10 : decode cX3_toldIs 10 = .ok (.iaload, 1) := by decide +kernel
theorem dX3_toldIs_11 : decode cX3_toldIs 11 = .ok (.ireturn, 1) := by decide +kernel
theorem dX3_toldIs_12 : decode cX3_toldIs 12 = .ok (.iload_n 1, 1) := by decide +kernel
theorem dX3_toldIs_13 : decode cX3_toldIs 13 = .ok (.iconst 3, 1) := by decide +kernel
theorem dX3_toldIs_14 : decode cX3_toldIs 14 = .ok (.if_icmp .ne 10, 3) := by decide +kernel
theorem dX3_toldIs_17 : decode cX3_toldIs 17 = .ok (.aload_n 0, 1) := by decide +kernel
theorem dX3_toldIs_18 : decode cX3_toldIs 18 = .ok (.getfield 152, 3) := by decide +kernel
theorem dX3_toldIs_21 : decode cX3_toldIs 21 = .ok (.goto 24, 3) := by decide +kernel
theorem dX3_toldIs_24 : decode cX3_toldIs 24 = .ok (.iload_n 1, 1) := by decide +kernel
theorem dX3_toldIs_25 : decode cX3_toldIs 25 = .ok (.bipush 13, 2) := by decide +kernel
theorem dX3_toldIs_27 : decode cX3_toldIs 27 = .ok (.if_icmp .ge 14, 3) := by decide +kernel
theorem dX3_toldIs_30 : decode cX3_toldIs 30 = .ok (.aload_n 0, 1) := by decide +kernel
theorem dX3_toldIs_31 : decode cX3_toldIs 31 = .ok (.getfield 7, 3) := by decide +kernel
theorem dX3_toldIs_34 : decode cX3_toldIs 34 = .ok (.iload_n 1, 1) := by decide +kernel
theorem dX3_toldIs_35 : decode cX3_toldIs 35 = .ok (.iconst 4, 1) := by decide +kernel
theorem dX3_toldIs_36 : decode cX3_toldIs 36 = .ok (.isub, 1) := by decide +kernel
theorem dX3_toldIs_37 : decode cX3_toldIs 37 = .ok (.iaload, 1) := by decide +kernel
theorem dX3_toldIs_38 : decode cX3_toldIs 38 = .ok (.goto 7, 3) := by decide +kernel
theorem dX3_toldIs_41 : decode cX3_toldIs 41 = .ok (.aload_n 0, 1) := by decide +kernel
theorem dX3_toldIs_42 : decode cX3_toldIs 42 = .ok (.getfield 49, 3) := by decide +kernel
theorem dX3_toldIs_45 : decode cX3_toldIs 45 = .ok (.ireturn, 1) := by decide +kernel
theorem dX3_told_0 : decode cX3_told 0 = .ok (.iload_n 1, 1) := by decide +kernel
theorem dX3_told_1 : decode cX3_told 1 = .ok (.iconst 0, 1) := by decide +kernel
theorem dX3_told_2 : decode cX3_told 2 = .ok (.bipush 13, 2) := by decide +kernel
theorem dX3_told_4 : decode cX3_told 4 = .ok (.invokestatic 74, 3) := by decide +kernel
theorem dX3_told_7 : decode cX3_told 7 = .ok (.ifCond .eq 11, 3) := by decide +kernel
theorem dX3_told_10 : decode cX3_told 10 = .ok (.aload_n 0, 1) := by decide +kernel
theorem dX3_told_11 : decode cX3_told 11 = .ok (.iload_n 1, 1) := by decide +kernel
theorem dX3_told_12 : decode cX3_told 12 = .ok (.invokevirtual 188, 3) := by decide +kernel
theorem dX3_told_15 : decode cX3_told 15 = .ok (.goto 9, 3) := by decide +kernel
theorem dX3_told_18 : decode cX3_told 18 = .ok (.aload_n 0, 1) := by decide +kernel
theorem dX3_told_19 : decode cX3_told 19 = .ok (.bipush (-2), 2) := by decide +kernel
theorem dX3_told_21 : decode cX3_told 21 = .ok (.invokevirtual 53, 3) := by decide +kernel
theorem dX3_told_24 : decode cX3_told 24 = .ok (.ireturn, 1) := by decide +kernel
theorem dX3_mix_0 : decode cX3_mix 0 = .ok (.aload_n 0, 1) := by decide +kernel
theorem dX3_mix_1 : decode cX3_mix 1 = .ok (.ldc2_w 191, 3) := by decide +kernel
theorem dX3_mix_4 : decode cX3_mix 4 = .ok (.aload_n 0, 1) := by decide +kernel
theorem dX3_mix_5 : decode cX3_mix 5 = .ok (.getfield 193, 3) := by decide +kernel
theorem dX3_mix_8 : decode cX3_mix 8 = .ok (.lmul, 1) := by decide +kernel
theorem dX3_mix_9 : decode cX3_mix 9 = .ok (.lload_n 1, 1) := by decide +kernel
theorem dX3_mix_10 : decode cX3_mix 10 = .ok (.ladd, 1) := by decide +kernel
theorem dX3_mix_11 : decode cX3_mix 11 = .ok (.putfield 193, 3) := by decide +kernel
theorem dX3_mix_14 : decode cX3_mix 14 = .ok (.return_, 1) := by decide +kernel
theorem dX3_digest_0 : decode cX3_digest 0 = .ok (.aload_n 0, 1) := by decide +kernel
theorem dX3_digest_1 : decode cX3_digest 1 = .ok (.ldc2_w 197, 3) := by decide +kernel
theorem dX3_digest_4 : decode cX3_digest 4 = .ok (.putfield 193, 3) := by decide +kernel
theorem dX3_digest_7 : decode cX3_digest 7 = .ok (.iconst 0, 1) := by decide +kernel
theorem dX3_digest_8 : decode cX3_digest 8 = .ok (.istore_n 1, 1) := by decide +kernel
theorem dX3_digest_9 : decode cX3_digest 9 = .ok (.iload_n 1, 1) := by decide +kernel
theorem dX3_digest_10 : decode cX3_digest 10 = .ok (.bipush 14, 2) := by decide +kernel
theorem dX3_digest_12 : decode cX3_digest 12 = .ok (.if_icmp .ge 19, 3) := by decide +kernel
theorem dX3_digest_15 : decode cX3_digest 15 = .ok (.aload_n 0, 1) := by decide +kernel
theorem dX3_digest_16 : decode cX3_digest 16 = .ok (.aload_n 0, 1) := by decide +kernel
theorem dX3_digest_17 : decode cX3_digest 17 = .ok (.iload_n 1, 1) := by decide +kernel
theorem dX3_digest_18 : decode cX3_digest 18 = .ok (.invokevirtual 188, 3) := by decide +kernel
theorem dX3_digest_21 : decode cX3_digest 21 = .ok (.i2l, 1) := by decide +kernel
theorem dX3_digest_22 : decode cX3_digest 22 = .ok (.invokevirtual 199, 3) := by decide +kernel
theorem dX3_digest_25 : decode cX3_digest 25 = .ok (.iinc 1 1, 3) := by decide +kernel
theorem dX3_digest_28 : decode cX3_digest 28 = .ok (.goto (-19), 3) := by decide +kernel
theorem dX3_digest_31 : decode cX3_digest 31 = .ok (.iconst 0, 1) := by decide +kernel
theorem dX3_digest_32 : decode cX3_digest 32 = .ok (.istore_n 1, 1) := by decide +kernel
theorem dX3_digest_33 : decode cX3_digest 33 = .ok (.iload_n 1, 1) := by decide +kernel
theorem dX3_digest_34 : decode cX3_digest 34 = .ok (.aload_n 0, 1) := by decide +kernel
theorem dX3_digest_35 : decode cX3_digest 35 = .ok (.getfield 7, 3) := by decide +kernel
theorem dX3_digest_38 : decode cX3_digest 38 = .ok (.iconst 0, 1) := by decide +kernel
theorem dX3_digest_39 : decode cX3_digest 39 = .ok (.iaload, 1) := by decide +kernel
theorem dX3_digest_40 : decode cX3_digest 40 = .ok (.if_icmp .gt 59, 3) := by decide +kernel
theorem dX3_digest_43 : decode cX3_digest 43 = .ok (.iconst 0, 1) := by decide +kernel
theorem dX3_digest_44 : decode cX3_digest 44 = .ok (.istore_n 2, 1) := by decide +kernel
theorem dX3_digest_45 : decode cX3_digest 45 = .ok (.iload_n 2, 1) := by decide +kernel
theorem dX3_digest_46 : decode cX3_digest 46 = .ok (.bipush 6, 2) := by decide +kernel
theorem dX3_digest_48 : decode cX3_digest 48 = .ok (.if_icmp .ge 22, 3) := by decide +kernel
theorem dX3_digest_51 : decode cX3_digest 51 = .ok (.aload_n 0, 1) := by decide +kernel
theorem dX3_digest_52 : decode cX3_digest 52 = .ok (.aload_n 0, 1) := by decide +kernel
theorem dX3_digest_53 : decode cX3_digest 53 = .ok (.iload_n 1, 1) := by decide +kernel
theorem dX3_digest_54 : decode cX3_digest 54 = .ok (.iload_n 2, 1) := by decide +kernel
theorem dX3_digest_55 : decode cX3_digest 55 = .ok (.invokevirtual 110, 3) := by decide +kernel
theorem dX3_digest_58 : decode cX3_digest 58 = .ok (.invokestatic 114, 3) := by decide +kernel
theorem dX3_digest_61 : decode cX3_digest 61 = .ok (.invokevirtual 199, 3) := by decide +kernel
theorem dX3_digest_64 : decode cX3_digest 64 = .ok (.iinc 2 1, 3) := by decide +kernel
theorem dX3_digest_67 : decode cX3_digest 67 = .ok (.goto (-22), 3) := by decide +kernel
theorem dX3_digest_70 : decode cX3_digest 70 = .ok (.aload_n 0, 1) := by decide +kernel
theorem dX3_digest_71 : decode cX3_digest 71 = .ok (.aload_n 0, 1) := by decide +kernel
theorem dX3_digest_72 : decode cX3_digest 72 = .ok (.getfield 13, 3) := by decide +kernel
theorem dX3_digest_75 : decode cX3_digest 75 = .ok (.iload_n 1, 1) := by decide +kernel
theorem dX3_digest_76 : decode cX3_digest 76 = .ok (.daload, 1) := by decide +kernel
theorem dX3_digest_77 : decode cX3_digest 77 = .ok (.aload_n 0, 1) := by decide +kernel
theorem dX3_digest_78 : decode cX3_digest 78 = .ok (.getfield 13, 3) := by decide +kernel
theorem dX3_digest_81 : decode cX3_digest 81 = .ok (.bipush 11, 2) := by decide +kernel
theorem dX3_digest_83 : decode cX3_digest 83 = .ok (.iload_n 1, 1) := by decide +kernel
theorem dX3_digest_84 : decode cX3_digest 84 = .ok (.iadd, 1) := by decide +kernel
theorem dX3_digest_85 : decode cX3_digest 85 = .ok (.daload, 1) := by decide +kernel
theorem dX3_digest_86 : decode cX3_digest 86 = .ok (.dadd, 1) := by decide +kernel
theorem dX3_digest_87 : decode cX3_digest 87 = .ok (.invokestatic 134, 3) := by decide +kernel
theorem dX3_digest_90 : decode cX3_digest 90 = .ok (.invokevirtual 199, 3) := by decide +kernel
theorem dX3_digest_93 : decode cX3_digest 93 = .ok (.iinc 1 1, 3) := by decide +kernel
theorem dX3_digest_96 : decode cX3_digest 96 = .ok (.goto (-63), 3) := by decide +kernel
theorem dX3_digest_99 : decode cX3_digest 99 = .ok (.iconst 0, 1) := by decide +kernel
theorem dX3_digest_100 : decode cX3_digest 100 = .ok (.istore_n 1, 1) := by decide +kernel
theorem dX3_digest_101 : decode cX3_digest 101 = .ok (.iload_n 1, 1) := by decide +kernel
theorem dX3_digest_102 : decode cX3_digest 102 = .ok (.iconst 4, 1) := by decide +kernel
theorem dX3_digest_103 : decode cX3_digest 103 = .ok (.if_icmp .ge 21, 3) := by decide +kernel
theorem dX3_digest_106 : decode cX3_digest 106 = .ok (.aload_n 0, 1) := by decide +kernel
theorem dX3_digest_107 : decode cX3_digest 107 = .ok (.aload_n 0, 1) := by decide +kernel
theorem dX3_digest_108 : decode cX3_digest 108 = .ok (.iload_n 1, 1) := by decide +kernel
theorem dX3_digest_109 : decode cX3_digest 109 = .ok (.invokevirtual 130, 3) := by decide +kernel
theorem dX3_digest_112 : decode cX3_digest 112 = .ok (.invokestatic 114, 3) := by decide +kernel
theorem dX3_digest_115 : decode cX3_digest 115 = .ok (.invokevirtual 199, 3) := by decide +kernel
theorem dX3_digest_118 : decode cX3_digest 118 = .ok (.iinc 1 1, 3) := by decide +kernel
theorem dX3_digest_121 : decode cX3_digest 121 = .ok (.goto (-20), 3) := by decide +kernel
theorem dX3_digest_124 : decode cX3_digest 124 = .ok (.aload_n 0, 1) := by decide +kernel
theorem dX3_digest_125 : decode cX3_digest 125 = .ok (.aload_n 0, 1) := by decide +kernel
theorem dX3_digest_126 : decode cX3_digest 126 = .ok (.iconst 2, 1) := by decide +kernel
theorem dX3_digest_127 : decode cX3_digest 127 = .ok (.aload_n 0, 1) := by decide +kernel
theorem dX3_digest_128 : decode cX3_digest 128 = .ok (.getfield 7, 3) := by decide +kernel
theorem dX3_digest_131 : decode cX3_digest 131 = .ok (.bipush 7, 2) := by decide +kernel
theorem dX3_digest_133 : decode cX3_digest 133 = .ok (.iaload, 1) := by decide +kernel
theorem dX3_digest_134 : decode cX3_digest 134 = .ok (.bipush 20, 2) := by decide +kernel
theorem dX3_digest_136 : decode cX3_digest 136 = .ok (.invokevirtual 145, 3) := by decide +kernel
theorem dX3_digest_139 : decode cX3_digest 139 = .ok (.invokestatic 114, 3) := by decide +kernel
theorem dX3_digest_142 : decode cX3_digest 142 = .ok (.invokevirtual 199, 3) := by decide +kernel
theorem dX3_digest_145 : decode cX3_digest 145 = .ok (.aload_n 0, 1) := by decide +kernel
theorem dX3_digest_146 : decode cX3_digest 146 = .ok (.getfield 193, 3) := by decide +kernel
theorem dX3_digest_149 : decode cX3_digest 149 = .ok (.lreturn, 1) := by decide +kernel
theorem dL_law_0 : decode cL_law 0 = .ok (.new 7, 3) := by decide +kernel
theorem dL_law_3 : decode cL_law 3 = .ok (.dup, 1) := by decide +kernel
theorem dL_law_4 : decode cL_law 4 = .ok (.invokespecial 9, 3) := by decide +kernel
theorem dL_law_7 : decode cL_law 7 = .ok (.astore_n 1, 1) := by decide +kernel
theorem dL_law_8 : decode cL_law 8 = .ok (.new 10, 3) := by decide +kernel
theorem dL_law_11 : decode cL_law 11 = .ok (.dup, 1) := by decide +kernel
theorem dL_law_12 : decode cL_law 12 = .ok (.invokespecial 12, 3) := by decide +kernel
theorem dL_law_15 : decode cL_law 15 = .ok (.astore_n 2, 1) := by decide +kernel
theorem dL_law_16 : decode cL_law 16 = .ok (.iconst 0, 1) := by decide +kernel
theorem dL_law_17 : decode cL_law 17 = .ok (.istore_n 3, 1) := by decide +kernel
theorem dL_law_18 : decode cL_law 18 = .ok (.iload_n 3, 1) := by decide +kernel
theorem dL_law_19 : decode cL_law 19 = .ok (.aload_n 0, 1) := by decide +kernel
theorem dL_law_20 : decode cL_law 20 = .ok (.arraylength, 1) := by decide +kernel
theorem dL_law_21 : decode cL_law 21 = .ok (.iconst 4, 1) := by decide +kernel
theorem dL_law_22 : decode cL_law 22 = .ok (.isub, 1) := by decide +kernel
theorem dL_law_23 : decode cL_law 23 = .ok (.if_icmp .gt 620, 3) := by decide +kernel
theorem dL_law_26 : decode cL_law 26 = .ok (.aload_n 0, 1) := by decide +kernel
theorem dL_law_27 : decode cL_law 27 = .ok (.iload_n 3, 1) := by decide +kernel
theorem dL_law_28 : decode cL_law 28 = .ok (.iaload, 1) := by decide +kernel
theorem dL_law_29 : decode cL_law 29 = .ok (.bipush 31, 2) := by decide +kernel
theorem dL_law_31 : decode cL_law 31 = .ok (.iand, 1) := by decide +kernel
theorem dL_law_32 : decode cL_law 32 = .ok (.tableswitch 605 0 18 #[92, 115, 148, 181, 214, 227, 250, 284, 308, 332, 376, 420, 463, 506, 529, 542, 555, 568, 591], 92) := by decide +kernel
theorem dL_law_124 : decode cL_law 124 = .ok (.aload_n 1, 1) := by decide +kernel
theorem dL_law_125 : decode cL_law 125 = .ok (.aload_n 0, 1) := by decide +kernel
theorem dL_law_126 : decode cL_law 126 = .ok (.iload_n 3, 1) := by decide +kernel
theorem dL_law_127 : decode cL_law 127 = .ok (.iconst 1, 1) := by decide +kernel
theorem dL_law_128 : decode cL_law 128 = .ok (.iadd, 1) := by decide +kernel
theorem dL_law_129 : decode cL_law 129 = .ok (.iaload, 1) := by decide +kernel
theorem dL_law_130 : decode cL_law 130 = .ok (.invokevirtual 13, 3) := by decide +kernel
theorem dL_law_133 : decode cL_law 133 = .ok (.aload_n 2, 1) := by decide +kernel
theorem dL_law_134 : decode cL_law 134 = .ok (.aload_n 0, 1) := by decide +kernel
theorem dL_law_135 : decode cL_law 135 = .ok (.iload_n 3, 1) := by decide +kernel
theorem dL_law_136 : decode cL_law 136 = .ok (.iconst 1, 1) := by decide +kernel
theorem dL_law_137 : decode cL_law 137 = .ok (.iadd, 1) := by decide +kernel
theorem dL_law_138 : decode cL_law 138 = .ok (.iaload, 1) := by decide +kernel
theorem dL_law_139 : decode cL_law 139 = .ok (.invokevirtual 17, 3) := by decide +kernel
theorem dL_law_142 : decode cL_law 142 = .ok (.if_icmp .eq 495, 3) := by decide +kernel
theorem dL_law_145 : decode cL_law 145 = .ok (.iconst 0, 1) := by decide +kernel
theorem dL_law_146 : decode cL_law 146 = .ok (.ireturn, 1) := by decide +kernel
theorem dL_law_147 : decode cL_law 147 = .ok (.aload_n 1, 1) := by decide +kernel
theorem dL_law_148 : decode cL_law 148 = .ok (.aload_n 0, 1) := by decide +kernel
theorem dL_law_149 : decode cL_law 149 = .ok (.iload_n 3, 1) := by decide +kernel
theorem dL_law_150 : decode cL_law 150 = .ok (.iconst 1, 1) := by decide +kernel
theorem dL_law_151 : decode cL_law 151 = .ok (.iadd, 1) := by decide +kernel
theorem dL_law_152 : decode cL_law 152 = .ok (.iaload, 1) := by decide +kernel
theorem dL_law_153 : decode cL_law 153 = .ok (.aload_n 0, 1) := by decide +kernel
theorem dL_law_154 : decode cL_law 154 = .ok (.iload_n 3, 1) := by decide +kernel
theorem dL_law_155 : decode cL_law 155 = .ok (.iconst 2, 1) := by decide +kernel
theorem dL_law_156 : decode cL_law 156 = .ok (.iadd, 1) := by decide +kernel
theorem dL_law_157 : decode cL_law 157 = .ok (.iaload, 1) := by decide +kernel
theorem dL_law_158 : decode cL_law 158 = .ok (.invokevirtual 18, 3) := by decide +kernel
theorem dL_law_161 : decode cL_law 161 = .ok (.aload_n 2, 1) := by decide +kernel
theorem dL_law_162 : decode cL_law 162 = .ok (.aload_n 0, 1) := by decide +kernel
theorem dL_law_163 : decode cL_law 163 = .ok (.iload_n 3, 1) := by decide +kernel
theorem dL_law_164 : decode cL_law 164 = .ok (.iconst 1, 1) := by decide +kernel
theorem dL_law_165 : decode cL_law 165 = .ok (.iadd, 1) := by decide +kernel
theorem dL_law_166 : decode cL_law 166 = .ok (.iaload, 1) := by decide +kernel
theorem dL_law_167 : decode cL_law 167 = .ok (.aload_n 0, 1) := by decide +kernel
theorem dL_law_168 : decode cL_law 168 = .ok (.iload_n 3, 1) := by decide +kernel
theorem dL_law_169 : decode cL_law 169 = .ok (.iconst 2, 1) := by decide +kernel
theorem dL_law_170 : decode cL_law 170 = .ok (.iadd, 1) := by decide +kernel
theorem dL_law_171 : decode cL_law 171 = .ok (.iaload, 1) := by decide +kernel
theorem dL_law_172 : decode cL_law 172 = .ok (.invokevirtual 22, 3) := by decide +kernel
theorem dL_law_175 : decode cL_law 175 = .ok (.if_icmp .eq 462, 3) := by decide +kernel
theorem dL_law_178 : decode cL_law 178 = .ok (.iconst 0, 1) := by decide +kernel
theorem dL_law_179 : decode cL_law 179 = .ok (.ireturn, 1) := by decide +kernel
theorem dL_law_180 : decode cL_law 180 = .ok (.aload_n 1, 1) := by decide +kernel
theorem dL_law_181 : decode cL_law 181 = .ok (.aload_n 0, 1) := by decide +kernel
theorem dL_law_182 : decode cL_law 182 = .ok (.iload_n 3, 1) := by decide +kernel
theorem dL_law_183 : decode cL_law 183 = .ok (.iconst 1, 1) := by decide +kernel
theorem dL_law_184 : decode cL_law 184 = .ok (.iadd, 1) := by decide +kernel
theorem dL_law_185 : decode cL_law 185 = .ok (.iaload, 1) := by decide +kernel
theorem dL_law_186 : decode cL_law 186 = .ok (.aload_n 0, 1) := by decide +kernel
theorem dL_law_187 : decode cL_law 187 = .ok (.iload_n 3, 1) := by decide +kernel
theorem dL_law_188 : decode cL_law 188 = .ok (.iconst 2, 1) := by decide +kernel
theorem dL_law_189 : decode cL_law 189 = .ok (.iadd, 1) := by decide +kernel
theorem dL_law_190 : decode cL_law 190 = .ok (.iaload, 1) := by decide +kernel
theorem dL_law_191 : decode cL_law 191 = .ok (.invokevirtual 23, 3) := by decide +kernel
theorem dL_law_194 : decode cL_law 194 = .ok (.aload_n 2, 1) := by decide +kernel
theorem dL_law_195 : decode cL_law 195 = .ok (.aload_n 0, 1) := by decide +kernel
theorem dL_law_196 : decode cL_law 196 = .ok (.iload_n 3, 1) := by decide +kernel
theorem dL_law_197 : decode cL_law 197 = .ok (.iconst 1, 1) := by decide +kernel
theorem dL_law_198 : decode cL_law 198 = .ok (.iadd, 1) := by decide +kernel
theorem dL_law_199 : decode cL_law 199 = .ok (.iaload, 1) := by decide +kernel
theorem dL_law_200 : decode cL_law 200 = .ok (.aload_n 0, 1) := by decide +kernel
theorem dL_law_201 : decode cL_law 201 = .ok (.iload_n 3, 1) := by decide +kernel
theorem dL_law_202 : decode cL_law 202 = .ok (.iconst 2, 1) := by decide +kernel
theorem dL_law_203 : decode cL_law 203 = .ok (.iadd, 1) := by decide +kernel
theorem dL_law_204 : decode cL_law 204 = .ok (.iaload, 1) := by decide +kernel
theorem dL_law_205 : decode cL_law 205 = .ok (.invokevirtual 26, 3) := by decide +kernel
theorem dL_law_208 : decode cL_law 208 = .ok (.if_icmp .eq 429, 3) := by decide +kernel
theorem dL_law_211 : decode cL_law 211 = .ok (.iconst 0, 1) := by decide +kernel
theorem dL_law_212 : decode cL_law 212 = .ok (.ireturn, 1) := by decide +kernel
theorem dL_law_213 : decode cL_law 213 = .ok (.aload_n 1, 1) := by decide +kernel
theorem dL_law_214 : decode cL_law 214 = .ok (.aload_n 0, 1) := by decide +kernel
theorem dL_law_215 : decode cL_law 215 = .ok (.iload_n 3, 1) := by decide +kernel
theorem dL_law_216 : decode cL_law 216 = .ok (.iconst 1, 1) := by decide +kernel
theorem dL_law_217 : decode cL_law 217 = .ok (.iadd, 1) := by decide +kernel
theorem dL_law_218 : decode cL_law 218 = .ok (.iaload, 1) := by decide +kernel
theorem dL_law_219 : decode cL_law 219 = .ok (.aload_n 0, 1) := by decide +kernel
theorem dL_law_220 : decode cL_law 220 = .ok (.iload_n 3, 1) := by decide +kernel
theorem dL_law_221 : decode cL_law 221 = .ok (.iconst 2, 1) := by decide +kernel
theorem dL_law_222 : decode cL_law 222 = .ok (.iadd, 1) := by decide +kernel
theorem dL_law_223 : decode cL_law 223 = .ok (.iaload, 1) := by decide +kernel
theorem dL_law_224 : decode cL_law 224 = .ok (.invokevirtual 27, 3) := by decide +kernel
theorem dL_law_227 : decode cL_law 227 = .ok (.aload_n 2, 1) := by decide +kernel
theorem dL_law_228 : decode cL_law 228 = .ok (.aload_n 0, 1) := by decide +kernel
theorem dL_law_229 : decode cL_law 229 = .ok (.iload_n 3, 1) := by decide +kernel
theorem dL_law_230 : decode cL_law 230 = .ok (.iconst 1, 1) := by decide +kernel
theorem dL_law_231 : decode cL_law 231 = .ok (.iadd, 1) := by decide +kernel
theorem dL_law_232 : decode cL_law 232 = .ok (.iaload, 1) := by decide +kernel
theorem dL_law_233 : decode cL_law 233 = .ok (.aload_n 0, 1) := by decide +kernel
theorem dL_law_234 : decode cL_law 234 = .ok (.iload_n 3, 1) := by decide +kernel
theorem dL_law_235 : decode cL_law 235 = .ok (.iconst 2, 1) := by decide +kernel
theorem dL_law_236 : decode cL_law 236 = .ok (.iadd, 1) := by decide +kernel
theorem dL_law_237 : decode cL_law 237 = .ok (.iaload, 1) := by decide +kernel
theorem dL_law_238 : decode cL_law 238 = .ok (.invokevirtual 30, 3) := by decide +kernel
theorem dL_law_241 : decode cL_law 241 = .ok (.if_icmp .eq 396, 3) := by decide +kernel
theorem dL_law_244 : decode cL_law 244 = .ok (.iconst 0, 1) := by decide +kernel
theorem dL_law_245 : decode cL_law 245 = .ok (.ireturn, 1) := by decide +kernel
theorem dL_law_246 : decode cL_law 246 = .ok (.aload_n 1, 1) := by decide +kernel
theorem dL_law_247 : decode cL_law 247 = .ok (.invokevirtual 31, 3) := by decide +kernel
theorem dL_law_250 : decode cL_law 250 = .ok (.aload_n 2, 1) := by decide +kernel
theorem dL_law_251 : decode cL_law 251 = .ok (.invokevirtual 35, 3) := by decide +kernel
theorem dL_law_254 : decode cL_law 254 = .ok (.if_icmp .eq 383, 3) := by decide +kernel
theorem dL_law_257 : decode cL_law 257 = .ok (.iconst 0, 1) := by decide +kernel
theorem dL_law_258 : decode cL_law 258 = .ok (.ireturn, 1) := by decide +kernel
theorem dL_law_259 : decode cL_law 259 = .ok (.aload_n 1, 1) := by decide +kernel
theorem dL_law_260 : decode cL_law 260 = .ok (.aload_n 0, 1) := by decide +kernel
theorem dL_law_261 : decode cL_law 261 = .ok (.iload_n 3, 1) := by decide +kernel
theorem dL_law_262 : decode cL_law 262 = .ok (.iconst 1, 1) := by decide +kernel
theorem dL_law_263 : decode cL_law 263 = .ok (.iadd, 1) := by decide +kernel
theorem dL_law_264 : decode cL_law 264 = .ok (.iaload, 1) := by decide +kernel
theorem dL_law_265 : decode cL_law 265 = .ok (.invokevirtual 36, 3) := by decide +kernel
theorem dL_law_268 : decode cL_law 268 = .ok (.aload_n 2, 1) := by decide +kernel
theorem dL_law_269 : decode cL_law 269 = .ok (.aload_n 0, 1) := by decide +kernel
theorem dL_law_270 : decode cL_law 270 = .ok (.iload_n 3, 1) := by decide +kernel
theorem dL_law_271 : decode cL_law 271 = .ok (.iconst 1, 1) := by decide +kernel
theorem dL_law_272 : decode cL_law 272 = .ok (.iadd, 1) := by decide +kernel
theorem dL_law_273 : decode cL_law 273 = .ok (.iaload, 1) := by decide +kernel
theorem dL_law_274 : decode cL_law 274 = .ok (.invokevirtual 39, 3) := by decide +kernel
theorem dL_law_277 : decode cL_law 277 = .ok (.if_icmp .eq 360, 3) := by decide +kernel
theorem dL_law_280 : decode cL_law 280 = .ok (.iconst 0, 1) := by decide +kernel
theorem dL_law_281 : decode cL_law 281 = .ok (.ireturn, 1) := by decide +kernel
theorem dL_law_282 : decode cL_law 282 = .ok (.aload_n 1, 1) := by decide +kernel
theorem dL_law_283 : decode cL_law 283 = .ok (.aload_n 0, 1) := by decide +kernel
theorem dL_law_284 : decode cL_law 284 = .ok (.iload_n 3, 1) := by decide +kernel
theorem dL_law_285 : decode cL_law 285 = .ok (.iconst 1, 1) := by decide +kernel
theorem dL_law_286 : decode cL_law 286 = .ok (.iadd, 1) := by decide +kernel
theorem dL_law_287 : decode cL_law 287 = .ok (.iaload, 1) := by decide +kernel
theorem dL_law_288 : decode cL_law 288 = .ok (.aload_n 0, 1) := by decide +kernel
theorem dL_law_289 : decode cL_law 289 = .ok (.iload_n 3, 1) := by decide +kernel
theorem dL_law_290 : decode cL_law 290 = .ok (.iconst 2, 1) := by decide +kernel
theorem dL_law_291 : decode cL_law 291 = .ok (.iadd, 1) := by decide +kernel
theorem dL_law_292 : decode cL_law 292 = .ok (.iaload, 1) := by decide +kernel
theorem dL_law_293 : decode cL_law 293 = .ok (.invokevirtual 40, 3) := by decide +kernel
theorem dL_law_296 : decode cL_law 296 = .ok (.aload_n 2, 1) := by decide +kernel
theorem dL_law_297 : decode cL_law 297 = .ok (.aload_n 0, 1) := by decide +kernel
theorem dL_law_298 : decode cL_law 298 = .ok (.iload_n 3, 1) := by decide +kernel
theorem dL_law_299 : decode cL_law 299 = .ok (.iconst 1, 1) := by decide +kernel
theorem dL_law_300 : decode cL_law 300 = .ok (.iadd, 1) := by decide +kernel
theorem dL_law_301 : decode cL_law 301 = .ok (.iaload, 1) := by decide +kernel
theorem dL_law_302 : decode cL_law 302 = .ok (.aload_n 0, 1) := by decide +kernel
theorem dL_law_303 : decode cL_law 303 = .ok (.iload_n 3, 1) := by decide +kernel
theorem dL_law_304 : decode cL_law 304 = .ok (.iconst 2, 1) := by decide +kernel
theorem dL_law_305 : decode cL_law 305 = .ok (.iadd, 1) := by decide +kernel
theorem dL_law_306 : decode cL_law 306 = .ok (.iaload, 1) := by decide +kernel
theorem dL_law_307 : decode cL_law 307 = .ok (.invokevirtual 44, 3) := by decide +kernel
theorem dL_law_310 : decode cL_law 310 = .ok (.lcmp, 1) := by decide +kernel
theorem dL_law_311 : decode cL_law 311 = .ok (.ifCond .eq 326, 3) := by decide +kernel
theorem dL_law_314 : decode cL_law 314 = .ok (.iconst 0, 1) := by decide +kernel
theorem dL_law_315 : decode cL_law 315 = .ok (.ireturn, 1) := by decide +kernel
theorem dL_law_316 : decode cL_law 316 = .ok (.aload_n 1, 1) := by decide +kernel
theorem dL_law_317 : decode cL_law 317 = .ok (.aload_n 0, 1) := by decide +kernel
theorem dL_law_318 : decode cL_law 318 = .ok (.iload_n 3, 1) := by decide +kernel
theorem dL_law_319 : decode cL_law 319 = .ok (.iconst 1, 1) := by decide +kernel
theorem dL_law_320 : decode cL_law 320 = .ok (.iadd, 1) := by decide +kernel
theorem dL_law_321 : decode cL_law 321 = .ok (.iaload, 1) := by decide +kernel
theorem dL_law_322 : decode cL_law 322 = .ok (.invokevirtual 45, 3) := by decide +kernel
theorem dL_law_325 : decode cL_law 325 = .ok (.aload_n 2, 1) := by decide +kernel
theorem dL_law_326 : decode cL_law 326 = .ok (.aload_n 0, 1) := by decide +kernel
theorem dL_law_327 : decode cL_law 327 = .ok (.iload_n 3, 1) := by decide +kernel
theorem dL_law_328 : decode cL_law 328 = .ok (.iconst 1, 1) := by decide +kernel
theorem dL_law_329 : decode cL_law 329 = .ok (.iadd, 1) := by decide +kernel
theorem dL_law_330 : decode cL_law 330 = .ok (.iaload, 1) := by decide +kernel
theorem dL_law_331 : decode cL_law 331 = .ok (.invokevirtual 49, 3) := by decide +kernel
theorem dL_law_334 : decode cL_law 334 = .ok (.lcmp, 1) := by decide +kernel
theorem dL_law_335 : decode cL_law 335 = .ok (.ifCond .eq 302, 3) := by decide +kernel
theorem dL_law_338 : decode cL_law 338 = .ok (.iconst 0, 1) := by decide +kernel
theorem dL_law_339 : decode cL_law 339 = .ok (.ireturn, 1) := by decide +kernel
theorem dL_law_340 : decode cL_law 340 = .ok (.aload_n 1, 1) := by decide +kernel
theorem dL_law_341 : decode cL_law 341 = .ok (.aload_n 0, 1) := by decide +kernel
theorem dL_law_342 : decode cL_law 342 = .ok (.iload_n 3, 1) := by decide +kernel
theorem dL_law_343 : decode cL_law 343 = .ok (.iconst 1, 1) := by decide +kernel
theorem dL_law_344 : decode cL_law 344 = .ok (.iadd, 1) := by decide +kernel
theorem dL_law_345 : decode cL_law 345 = .ok (.iaload, 1) := by decide +kernel
theorem dL_law_346 : decode cL_law 346 = .ok (.invokevirtual 50, 3) := by decide +kernel
theorem dL_law_349 : decode cL_law 349 = .ok (.aload_n 2, 1) := by decide +kernel
theorem dL_law_350 : decode cL_law 350 = .ok (.aload_n 0, 1) := by decide +kernel
theorem dL_law_351 : decode cL_law 351 = .ok (.iload_n 3, 1) := by decide +kernel
theorem dL_law_352 : decode cL_law 352 = .ok (.iconst 1, 1) := by decide +kernel
theorem dL_law_353 : decode cL_law 353 = .ok (.iadd, 1) := by decide +kernel
theorem dL_law_354 : decode cL_law 354 = .ok (.iaload, 1) := by decide +kernel
theorem dL_law_355 : decode cL_law 355 = .ok (.invokevirtual 53, 3) := by decide +kernel
theorem dL_law_358 : decode cL_law 358 = .ok (.lcmp, 1) := by decide +kernel
theorem dL_law_359 : decode cL_law 359 = .ok (.ifCond .eq 278, 3) := by decide +kernel
theorem dL_law_362 : decode cL_law 362 = .ok (.iconst 0, 1) := by decide +kernel
theorem dL_law_363 : decode cL_law 363 = .ok (.ireturn, 1) := by decide +kernel
theorem dL_law_364 : decode cL_law 364 = .ok (.aload_n 1, 1) := by decide +kernel
theorem dL_law_365 : decode cL_law 365 = .ok (.aload_n 0, 1) := by decide +kernel
theorem dL_law_366 : decode cL_law 366 = .ok (.iload_n 3, 1) := by decide +kernel
theorem dL_law_367 : decode cL_law 367 = .ok (.iconst 1, 1) := by decide +kernel
theorem dL_law_368 : decode cL_law 368 = .ok (.iadd, 1) := by decide +kernel
theorem dL_law_369 : decode cL_law 369 = .ok (.iaload, 1) := by decide +kernel
theorem dL_law_370 : decode cL_law 370 = .ok (.aload_n 0, 1) := by decide +kernel
theorem dL_law_371 : decode cL_law 371 = .ok (.iload_n 3, 1) := by decide +kernel
theorem dL_law_372 : decode cL_law 372 = .ok (.iconst 2, 1) := by decide +kernel
theorem dL_law_373 : decode cL_law 373 = .ok (.iadd, 1) := by decide +kernel
theorem dL_law_374 : decode cL_law 374 = .ok (.iaload, 1) := by decide +kernel
theorem dL_law_375 : decode cL_law 375 = .ok (.aload_n 0, 1) := by decide +kernel
theorem dL_law_376 : decode cL_law 376 = .ok (.iload_n 3, 1) := by decide +kernel
theorem dL_law_377 : decode cL_law 377 = .ok (.iconst 3, 1) := by decide +kernel
theorem dL_law_378 : decode cL_law 378 = .ok (.iadd, 1) := by decide +kernel
theorem dL_law_379 : decode cL_law 379 = .ok (.iaload, 1) := by decide +kernel
theorem dL_law_380 : decode cL_law 380 = .ok (.invokevirtual 54, 3) := by decide +kernel
theorem dL_law_383 : decode cL_law 383 = .ok (.aload_n 2, 1) := by decide +kernel
theorem dL_law_384 : decode cL_law 384 = .ok (.aload_n 0, 1) := by decide +kernel
theorem dL_law_385 : decode cL_law 385 = .ok (.iload_n 3, 1) := by decide +kernel
theorem dL_law_386 : decode cL_law 386 = .ok (.iconst 1, 1) := by decide +kernel
theorem dL_law_387 : decode cL_law 387 = .ok (.iadd, 1) := by decide +kernel
theorem dL_law_388 : decode cL_law 388 = .ok (.iaload, 1) := by decide +kernel
theorem dL_law_389 : decode cL_law 389 = .ok (.aload_n 0, 1) := by decide +kernel
theorem dL_law_390 : decode cL_law 390 = .ok (.iload_n 3, 1) := by decide +kernel
theorem dL_law_391 : decode cL_law 391 = .ok (.iconst 2, 1) := by decide +kernel
theorem dL_law_392 : decode cL_law 392 = .ok (.iadd, 1) := by decide +kernel
theorem dL_law_393 : decode cL_law 393 = .ok (.iaload, 1) := by decide +kernel
theorem dL_law_394 : decode cL_law 394 = .ok (.aload_n 0, 1) := by decide +kernel
theorem dL_law_395 : decode cL_law 395 = .ok (.iload_n 3, 1) := by decide +kernel
theorem dL_law_396 : decode cL_law 396 = .ok (.iconst 3, 1) := by decide +kernel
theorem dL_law_397 : decode cL_law 397 = .ok (.iadd, 1) := by decide +kernel
theorem dL_law_398 : decode cL_law 398 = .ok (.iaload, 1) := by decide +kernel
theorem dL_law_399 : decode cL_law 399 = .ok (.invokevirtual 58, 3) := by decide +kernel
theorem dL_law_402 : decode cL_law 402 = .ok (.lcmp, 1) := by decide +kernel
theorem dL_law_403 : decode cL_law 403 = .ok (.ifCond .eq 234, 3) := by decide +kernel
theorem dL_law_406 : decode cL_law 406 = .ok (.iconst 0, 1) := by decide +kernel
theorem dL_law_407 : decode cL_law 407 = .ok (.ireturn, 1) := by decide +kernel
theorem dL_law_408 : decode cL_law 408 = .ok (.aload_n 1, 1) := by decide +kernel
theorem dL_law_409 : decode cL_law 409 = .ok (.aload_n 0, 1) := by decide +kernel
theorem dL_law_410 : decode cL_law 410 = .ok (.iload_n 3, 1) := by decide +kernel
theorem dL_law_411 : decode cL_law 411 = .ok (.iconst 1, 1) := by decide +kernel
theorem dL_law_412 : decode cL_law 412 = .ok (.iadd, 1) := by decide +kernel
theorem dL_law_413 : decode cL_law 413 = .ok (.iaload, 1) := by decide +kernel
theorem dL_law_414 : decode cL_law 414 = .ok (.aload_n 0, 1) := by decide +kernel
theorem dL_law_415 : decode cL_law 415 = .ok (.iload_n 3, 1) := by decide +kernel
theorem dL_law_416 : decode cL_law 416 = .ok (.iconst 2, 1) := by decide +kernel
theorem dL_law_417 : decode cL_law 417 = .ok (.iadd, 1) := by decide +kernel
theorem dL_law_418 : decode cL_law 418 = .ok (.iaload, 1) := by decide +kernel
theorem dL_law_419 : decode cL_law 419 = .ok (.aload_n 0, 1) := by decide +kernel
theorem dL_law_420 : decode cL_law 420 = .ok (.iload_n 3, 1) := by decide +kernel
theorem dL_law_421 : decode cL_law 421 = .ok (.iconst 3, 1) := by decide +kernel
theorem dL_law_422 : decode cL_law 422 = .ok (.iadd, 1) := by decide +kernel
theorem dL_law_423 : decode cL_law 423 = .ok (.iaload, 1) := by decide +kernel
theorem dL_law_424 : decode cL_law 424 = .ok (.invokevirtual 59, 3) := by decide +kernel
theorem dL_law_427 : decode cL_law 427 = .ok (.aload_n 2, 1) := by decide +kernel
theorem dL_law_428 : decode cL_law 428 = .ok (.aload_n 0, 1) := by decide +kernel
theorem dL_law_429 : decode cL_law 429 = .ok (.iload_n 3, 1) := by decide +kernel
theorem dL_law_430 : decode cL_law 430 = .ok (.iconst 1, 1) := by decide +kernel
theorem dL_law_431 : decode cL_law 431 = .ok (.iadd, 1) := by decide +kernel
theorem dL_law_432 : decode cL_law 432 = .ok (.iaload, 1) := by decide +kernel
theorem dL_law_433 : decode cL_law 433 = .ok (.aload_n 0, 1) := by decide +kernel
theorem dL_law_434 : decode cL_law 434 = .ok (.iload_n 3, 1) := by decide +kernel
theorem dL_law_435 : decode cL_law 435 = .ok (.iconst 2, 1) := by decide +kernel
theorem dL_law_436 : decode cL_law 436 = .ok (.iadd, 1) := by decide +kernel
theorem dL_law_437 : decode cL_law 437 = .ok (.iaload, 1) := by decide +kernel
theorem dL_law_438 : decode cL_law 438 = .ok (.aload_n 0, 1) := by decide +kernel
theorem dL_law_439 : decode cL_law 439 = .ok (.iload_n 3, 1) := by decide +kernel
theorem dL_law_440 : decode cL_law 440 = .ok (.iconst 3, 1) := by decide +kernel
theorem dL_law_441 : decode cL_law 441 = .ok (.iadd, 1) := by decide +kernel
theorem dL_law_442 : decode cL_law 442 = .ok (.iaload, 1) := by decide +kernel
theorem dL_law_443 : decode cL_law 443 = .ok (.invokevirtual 62, 3) := by decide +kernel
theorem dL_law_446 : decode cL_law 446 = .ok (.lcmp, 1) := by decide +kernel
theorem dL_law_447 : decode cL_law 447 = .ok (.ifCond .eq 190, 3) := by decide +kernel
theorem dL_law_450 : decode cL_law 450 = .ok (.iconst 0, 1) := by decide +kernel
theorem dL_law_451 : decode cL_law 451 = .ok (.ireturn, 1) := by decide +kernel
theorem dL_law_452 : decode cL_law 452 = .ok (.aload_n 1, 1) := by decide +kernel
theorem dL_law_453 : decode cL_law 453 = .ok (.aload_n 0, 1) := by decide +kernel
theorem dL_law_454 : decode cL_law 454 = .ok (.iload_n 3, 1) := by decide +kernel
theorem dL_law_455 : decode cL_law 455 = .ok (.iconst 1, 1) := by decide +kernel
theorem dL_law_456 : decode cL_law 456 = .ok (.iadd, 1) := by decide +kernel
theorem dL_law_457 : decode cL_law 457 = .ok (.iaload, 1) := by decide +kernel
theorem dL_law_458 : decode cL_law 458 = .ok (.aload_n 0, 1) := by decide +kernel
theorem dL_law_459 : decode cL_law 459 = .ok (.iload_n 3, 1) := by decide +kernel
theorem dL_law_460 : decode cL_law 460 = .ok (.iconst 2, 1) := by decide +kernel
theorem dL_law_461 : decode cL_law 461 = .ok (.iadd, 1) := by decide +kernel
theorem dL_law_462 : decode cL_law 462 = .ok (.iaload, 1) := by decide +kernel
theorem dL_law_463 : decode cL_law 463 = .ok (.aload_n 0, 1) := by decide +kernel
theorem dL_law_464 : decode cL_law 464 = .ok (.iload_n 3, 1) := by decide +kernel
theorem dL_law_465 : decode cL_law 465 = .ok (.iconst 3, 1) := by decide +kernel
theorem dL_law_466 : decode cL_law 466 = .ok (.iadd, 1) := by decide +kernel
theorem dL_law_467 : decode cL_law 467 = .ok (.iaload, 1) := by decide +kernel
theorem dL_law_468 : decode cL_law 468 = .ok (.invokevirtual 63, 3) := by decide +kernel
theorem dL_law_471 : decode cL_law 471 = .ok (.aload_n 2, 1) := by decide +kernel
theorem dL_law_472 : decode cL_law 472 = .ok (.aload_n 0, 1) := by decide +kernel
theorem dL_law_473 : decode cL_law 473 = .ok (.iload_n 3, 1) := by decide +kernel
theorem dL_law_474 : decode cL_law 474 = .ok (.iconst 1, 1) := by decide +kernel
theorem dL_law_475 : decode cL_law 475 = .ok (.iadd, 1) := by decide +kernel
theorem dL_law_476 : decode cL_law 476 = .ok (.iaload, 1) := by decide +kernel
theorem dL_law_477 : decode cL_law 477 = .ok (.aload_n 0, 1) := by decide +kernel
theorem dL_law_478 : decode cL_law 478 = .ok (.iload_n 3, 1) := by decide +kernel
theorem dL_law_479 : decode cL_law 479 = .ok (.iconst 2, 1) := by decide +kernel
theorem dL_law_480 : decode cL_law 480 = .ok (.iadd, 1) := by decide +kernel
theorem dL_law_481 : decode cL_law 481 = .ok (.iaload, 1) := by decide +kernel
theorem dL_law_482 : decode cL_law 482 = .ok (.aload_n 0, 1) := by decide +kernel
theorem dL_law_483 : decode cL_law 483 = .ok (.iload_n 3, 1) := by decide +kernel
theorem dL_law_484 : decode cL_law 484 = .ok (.iconst 3, 1) := by decide +kernel
theorem dL_law_485 : decode cL_law 485 = .ok (.iadd, 1) := by decide +kernel
theorem dL_law_486 : decode cL_law 486 = .ok (.iaload, 1) := by decide +kernel
theorem dL_law_487 : decode cL_law 487 = .ok (.invokevirtual 67, 3) := by decide +kernel
theorem dL_law_490 : decode cL_law 490 = .ok (.if_icmp .eq 147, 3) := by decide +kernel
theorem dL_law_493 : decode cL_law 493 = .ok (.iconst 0, 1) := by decide +kernel
theorem dL_law_494 : decode cL_law 494 = .ok (.ireturn, 1) := by decide +kernel
theorem dL_law_495 : decode cL_law 495 = .ok (.aload_n 1, 1) := by decide +kernel
theorem dL_law_496 : decode cL_law 496 = .ok (.aload_n 0, 1) := by decide +kernel
theorem dL_law_497 : decode cL_law 497 = .ok (.iload_n 3, 1) := by decide +kernel
theorem dL_law_498 : decode cL_law 498 = .ok (.iconst 1, 1) := by decide +kernel
theorem dL_law_499 : decode cL_law 499 = .ok (.iadd, 1) := by decide +kernel
theorem dL_law_500 : decode cL_law 500 = .ok (.iaload, 1) := by decide +kernel
theorem dL_law_501 : decode cL_law 501 = .ok (.aload_n 0, 1) := by decide +kernel
theorem dL_law_502 : decode cL_law 502 = .ok (.iload_n 3, 1) := by decide +kernel
theorem dL_law_503 : decode cL_law 503 = .ok (.iconst 2, 1) := by decide +kernel
theorem dL_law_504 : decode cL_law 504 = .ok (.iadd, 1) := by decide +kernel
theorem dL_law_505 : decode cL_law 505 = .ok (.iaload, 1) := by decide +kernel
theorem dL_law_506 : decode cL_law 506 = .ok (.aload_n 0, 1) := by decide +kernel
theorem dL_law_507 : decode cL_law 507 = .ok (.iload_n 3, 1) := by decide +kernel
theorem dL_law_508 : decode cL_law 508 = .ok (.iconst 3, 1) := by decide +kernel
theorem dL_law_509 : decode cL_law 509 = .ok (.iadd, 1) := by decide +kernel
theorem dL_law_510 : decode cL_law 510 = .ok (.iaload, 1) := by decide +kernel
theorem dL_law_511 : decode cL_law 511 = .ok (.invokevirtual 68, 3) := by decide +kernel
theorem dL_law_514 : decode cL_law 514 = .ok (.aload_n 2, 1) := by decide +kernel
theorem dL_law_515 : decode cL_law 515 = .ok (.aload_n 0, 1) := by decide +kernel
theorem dL_law_516 : decode cL_law 516 = .ok (.iload_n 3, 1) := by decide +kernel
theorem dL_law_517 : decode cL_law 517 = .ok (.iconst 1, 1) := by decide +kernel
theorem dL_law_518 : decode cL_law 518 = .ok (.iadd, 1) := by decide +kernel
theorem dL_law_519 : decode cL_law 519 = .ok (.iaload, 1) := by decide +kernel
theorem dL_law_520 : decode cL_law 520 = .ok (.aload_n 0, 1) := by decide +kernel
theorem dL_law_521 : decode cL_law 521 = .ok (.iload_n 3, 1) := by decide +kernel
theorem dL_law_522 : decode cL_law 522 = .ok (.iconst 2, 1) := by decide +kernel
theorem dL_law_523 : decode cL_law 523 = .ok (.iadd, 1) := by decide +kernel
theorem dL_law_524 : decode cL_law 524 = .ok (.iaload, 1) := by decide +kernel
theorem dL_law_525 : decode cL_law 525 = .ok (.aload_n 0, 1) := by decide +kernel
theorem dL_law_526 : decode cL_law 526 = .ok (.iload_n 3, 1) := by decide +kernel
theorem dL_law_527 : decode cL_law 527 = .ok (.iconst 3, 1) := by decide +kernel
theorem dL_law_528 : decode cL_law 528 = .ok (.iadd, 1) := by decide +kernel
theorem dL_law_529 : decode cL_law 529 = .ok (.iaload, 1) := by decide +kernel
theorem dL_law_530 : decode cL_law 530 = .ok (.invokevirtual 71, 3) := by decide +kernel
theorem dL_law_533 : decode cL_law 533 = .ok (.if_icmp .eq 104, 3) := by decide +kernel
theorem dL_law_536 : decode cL_law 536 = .ok (.iconst 0, 1) := by decide +kernel
theorem dL_law_537 : decode cL_law 537 = .ok (.ireturn, 1) := by decide +kernel
theorem dL_law_538 : decode cL_law 538 = .ok (.aload_n 1, 1) := by decide +kernel
theorem dL_law_539 : decode cL_law 539 = .ok (.aload_n 0, 1) := by decide +kernel
theorem dL_law_540 : decode cL_law 540 = .ok (.iload_n 3, 1) := by decide +kernel
theorem dL_law_541 : decode cL_law 541 = .ok (.iconst 1, 1) := by decide +kernel
theorem dL_law_542 : decode cL_law 542 = .ok (.iadd, 1) := by decide +kernel
theorem dL_law_543 : decode cL_law 543 = .ok (.iaload, 1) := by decide +kernel
theorem dL_law_544 : decode cL_law 544 = .ok (.invokevirtual 72, 3) := by decide +kernel
theorem dL_law_547 : decode cL_law 547 = .ok (.aload_n 2, 1) := by decide +kernel
theorem dL_law_548 : decode cL_law 548 = .ok (.aload_n 0, 1) := by decide +kernel
theorem dL_law_549 : decode cL_law 549 = .ok (.iload_n 3, 1) := by decide +kernel
theorem dL_law_550 : decode cL_law 550 = .ok (.iconst 1, 1) := by decide +kernel
theorem dL_law_551 : decode cL_law 551 = .ok (.iadd, 1) := by decide +kernel
theorem dL_law_552 : decode cL_law 552 = .ok (.iaload, 1) := by decide +kernel
theorem dL_law_553 : decode cL_law 553 = .ok (.invokevirtual 75, 3) := by decide +kernel
theorem dL_law_556 : decode cL_law 556 = .ok (.if_icmp .eq 81, 3) := by decide +kernel
theorem dL_law_559 : decode cL_law 559 = .ok (.iconst 0, 1) := by decide +kernel
theorem dL_law_560 : decode cL_law 560 = .ok (.ireturn, 1) := by decide +kernel
theorem dL_law_561 : decode cL_law 561 = .ok (.aload_n 1, 1) := by decide +kernel
theorem dL_law_562 : decode cL_law 562 = .ok (.invokevirtual 76, 3) := by decide +kernel
theorem dL_law_565 : decode cL_law 565 = .ok (.aload_n 2, 1) := by decide +kernel
theorem dL_law_566 : decode cL_law 566 = .ok (.invokevirtual 79, 3) := by decide +kernel
theorem dL_law_569 : decode cL_law 569 = .ok (.if_icmp .eq 68, 3) := by decide +kernel
theorem dL_law_572 : decode cL_law 572 = .ok (.iconst 0, 1) := by decide +kernel
theorem dL_law_573 : decode cL_law 573 = .ok (.ireturn, 1) := by decide +kernel
theorem dL_law_574 : decode cL_law 574 = .ok (.aload_n 1, 1) := by decide +kernel
theorem dL_law_575 : decode cL_law 575 = .ok (.invokevirtual 80, 3) := by decide +kernel
theorem dL_law_578 : decode cL_law 578 = .ok (.aload_n 2, 1) := by decide +kernel
theorem dL_law_579 : decode cL_law 579 = .ok (.invokevirtual 83, 3) := by decide +kernel
theorem dL_law_582 : decode cL_law 582 = .ok (.if_icmp .eq 55, 3) := by decide +kernel
theorem dL_law_585 : decode cL_law 585 = .ok (.iconst 0, 1) := by decide +kernel
theorem dL_law_586 : decode cL_law 586 = .ok (.ireturn, 1) := by decide +kernel
theorem dL_law_587 : decode cL_law 587 = .ok (.aload_n 1, 1) := by decide +kernel
theorem dL_law_588 : decode cL_law 588 = .ok (.invokevirtual 84, 3) := by decide +kernel
theorem dL_law_591 : decode cL_law 591 = .ok (.aload_n 2, 1) := by decide +kernel
theorem dL_law_592 : decode cL_law 592 = .ok (.invokevirtual 87, 3) := by decide +kernel
theorem dL_law_595 : decode cL_law 595 = .ok (.if_icmp .eq 42, 3) := by decide +kernel
theorem dL_law_598 : decode cL_law 598 = .ok (.iconst 0, 1) := by decide +kernel
theorem dL_law_599 : decode cL_law 599 = .ok (.ireturn, 1) := by decide +kernel
theorem dL_law_600 : decode cL_law 600 = .ok (.aload_n 1, 1) := by decide +kernel
theorem dL_law_601 : decode cL_law 601 = .ok (.aload_n 0, 1) := by decide +kernel
theorem dL_law_602 : decode cL_law 602 = .ok (.iload_n 3, 1) := by decide +kernel
theorem dL_law_603 : decode cL_law 603 = .ok (.iconst 1, 1) := by decide +kernel
theorem dL_law_604 : decode cL_law 604 = .ok (.iadd, 1) := by decide +kernel
theorem dL_law_605 : decode cL_law 605 = .ok (.iaload, 1) := by decide +kernel
theorem dL_law_606 : decode cL_law 606 = .ok (.invokevirtual 88, 3) := by decide +kernel
theorem dL_law_609 : decode cL_law 609 = .ok (.aload_n 2, 1) := by decide +kernel
theorem dL_law_610 : decode cL_law 610 = .ok (.aload_n 0, 1) := by decide +kernel
theorem dL_law_611 : decode cL_law 611 = .ok (.iload_n 3, 1) := by decide +kernel
theorem dL_law_612 : decode cL_law 612 = .ok (.iconst 1, 1) := by decide +kernel
theorem dL_law_613 : decode cL_law 613 = .ok (.iadd, 1) := by decide +kernel
theorem dL_law_614 : decode cL_law 614 = .ok (.iaload, 1) := by decide +kernel
theorem dL_law_615 : decode cL_law 615 = .ok (.invokevirtual 91, 3) := by decide +kernel
theorem dL_law_618 : decode cL_law 618 = .ok (.if_icmp .eq 19, 3) := by decide +kernel
theorem dL_law_621 : decode cL_law 621 = .ok (.iconst 0, 1) := by decide +kernel
theorem dL_law_622 : decode cL_law 622 = .ok (.ireturn, 1) := by decide +kernel
theorem dL_law_623 : decode cL_law 623 = .ok (.aload_n 1, 1) := by decide +kernel
theorem dL_law_624 : decode cL_law 624 = .ok (.invokevirtual 92, 3) := by decide +kernel
theorem dL_law_627 : decode cL_law 627 = .ok (.aload_n 2, 1) := by decide +kernel
theorem dL_law_628 : decode cL_law 628 = .ok (.invokevirtual 96, 3) := by decide +kernel
theorem dL_law_631 : decode cL_law 631 = .ok (.lcmp, 1) := by decide +kernel
theorem dL_law_632 : decode cL_law 632 = .ok (.ifCond .eq 5, 3) := by decide +kernel
theorem dL_law_635 : decode cL_law 635 = .ok (.iconst 0, 1) := by decide +kernel
theorem dL_law_636 : decode cL_law 636 = .ok (.ireturn, 1) := by decide +kernel
theorem dL_law_637 : decode cL_law 637 = .ok (.iinc 3 4, 3) := by decide +kernel
theorem dL_law_640 : decode cL_law 640 = .ok (.goto (-622), 3) := by decide +kernel
theorem dL_law_643 : decode cL_law 643 = .ok (.iconst 1, 1) := by decide +kernel
theorem dL_law_644 : decode cL_law 644 = .ok (.ireturn, 1) := by decide +kernel
