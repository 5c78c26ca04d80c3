theorem dX12_init_248 : decode cX12_init 248 = .ok (.newarray .int, 2) := by decide +kernel
theorem dX12_init_250 : decode cX12_init 250 = .ok (.putfield 188, 3) := by decide +kernel
theorem dX12_init_253 : decode cX12_init 253 = .ok (.aload_n 0, 1) := by decide +kernel
theorem dX12_init_254 : decode cX12_init 254 = .ok (.bipush 8, 2) := by decide +kernel
theorem dX12_init_256 : decode cX12_init 256 = .ok (.newarray .int, 2) := by decide +kernel
theorem dX12_init_258 : decode cX12_init 258 = .ok (.putfield 191, 3) := by decide +kernel
theorem dX12_init_261 : decode cX12_init 261 = .ok (.aload_n 0, 1) := by decide +kernel
theorem dX12_init_262 : decode cX12_init 262 = .ok (.bipush 8, 2) := by decide +kernel
theorem dX12_init_264 : decode cX12_init 264 = .ok (.newarray .int, 2) := by decide +kernel
theorem dX12_init_266 : decode cX12_init 266 = .ok (.putfield 194, 3) := by decide +kernel
theorem dX12_init_269 : decode cX12_init 269 = .ok (.aload_n 0, 1) := by decide +kernel
theorem dX12_init_270 : decode cX12_init 270 = .ok (.bipush 30, 2) := by decide +kernel
theorem dX12_init_272 : decode cX12_init 272 = .ok (.newarray .int, 2) := by decide +kernel
theorem dX12_init_274 : decode cX12_init 274 = .ok (.putfield 197, 3) := by decide +kernel
theorem dX12_init_277 : decode cX12_init 277 = .ok (.aload_n 0, 1) := by decide +kernel
theorem dX12_init_278 : decode cX12_init 278 = .ok (.bipush 30, 2) := by decide +kernel
theorem dX12_init_280 : decode cX12_init 280 = .ok (.newarray .int, 2) := by decide +kernel
theorem dX12_init_282 : decode cX12_init 282 = .ok (.putfield 200, 3) := by decide +kernel
theorem dX12_init_285 : decode cX12_init 285 = .ok (.iconst 0, 1) := by decide +kernel
theorem dX12_init_286 : decode cX12_init 286 = .ok (.istore_n 1, 1) := by decide +kernel
theorem dX12_init_287 : decode cX12_init 287 = .ok (.iload_n 1, 1) := by decide +kernel
theorem dX12_init_288 : decode cX12_init 288 = .ok (.bipush 9, 2) := by decide +kernel
theorem dX12_init_290 : decode cX12_init 290 = .ok (.if_icmp .ge 20, 3) := by decide +kernel
theorem dX12_init_293 : decode cX12_init 293 = .ok (.aload_n 0, 1) := by decide +kernel
theorem dX12_init_294 : decode cX12_init 294 = .ok (.getfield 114, 3) := by decide +kernel
theorem dX12_init_297 : decode cX12_init 297 = .ok (.iload_n 1, 1) := by decide +kernel
theorem dX12_init_298 : decode cX12_init 298 = .ok (.getstatic 86, 3) := by decide +kernel
theorem dX12_init_301 : decode cX12_init 301 = .ok (.iload_n 1, 1) := by decide +kernel
theorem dX12_init_302 : decode cX12_init 302 = .ok (.iaload, 1) := by decide +kernel
theorem dX12_init_303 : decode cX12_init 303 = .ok (.iastore, 1) := by decide +kernel
theorem dX12_init_304 : decode cX12_init 304 = .ok (.iinc 1 1, 3) := by decide +kernel
theorem dX12_init_307 : decode cX12_init 307 = .ok (.goto (-20), 3) := by decide +kernel
theorem dX12_init_310 : decode cX12_init 310 = .ok (.iconst 0, 1) := by decide +kernel
theorem dX12_init_311 : decode cX12_init 311 = .ok (.istore_n 1, 1) := by decide +kernel
theorem dX12_init_312 : decode cX12_init 312 = .ok (.iload_n 1, 1) := by decide +kernel
theorem dX12_init_313 : decode cX12_init 313 = .ok (.bipush 30, 2) := by decide +kernel
theorem dX12_init_315 : decode cX12_init 315 = .ok (.if_icmp .ge 23, 3) := by decide +kernel
theorem dX12_init_318 : decode cX12_init 318 = .ok (.aload_n 0, 1) := by decide +kernel
theorem dX12_init_319 : decode cX12_init 319 = .ok (.getfield 120, 3) := by decide +kernel
theorem dX12_init_322 : decode cX12_init 322 = .ok (.iload_n 1, 1) := by decide +kernel
theorem dX12_init_323 : decode cX12_init 323 = .ok (.iconst (-1), 1) := by decide +kernel
theorem dX12_init_324 : decode cX12_init 324 = .ok (.iastore, 1) := by decide +kernel
theorem dX12_init_325 : decode cX12_init 325 = .ok (.aload_n 0, 1) := by decide +kernel
theorem dX12_init_326 : decode cX12_init 326 = .ok (.getfield 123, 3) := by decide +kernel
theorem dX12_init_329 : decode cX12_init 329 = .ok (.iload_n 1, 1) := by decide +kernel
theorem dX12_init_330 : decode cX12_init 330 = .ok (.iconst (-1), 1) := by decide +kernel
theorem dX12_init_331 : decode cX12_init 331 = .ok (.iastore, 1) := by decide +kernel
theorem dX12_init_332 : decode cX12_init 332 = .ok (.iinc 1 1, 3) := by decide +kernel
theorem dX12_init_335 : decode cX12_init 335 = .ok (.goto (-23), 3) := by decide +kernel
theorem dX12_init_338 : decode cX12_init 338 = .ok (.return_, 1) := by decide +kernel
theorem dX12_feed_0 : decode cX12_feed 0 = .ok (.aload_n 0, 1) := by decide +kernel
theorem dX12_feed_1 : decode cX12_feed 1 = .ok (.getfield 203, 3) := by decide +kernel
theorem dX12_feed_4 : decode cX12_feed 4 = .ok (.bipush 20, 2) := by decide +kernel
theorem dX12_feed_6 : decode cX12_feed 6 = .ok (.iadd, 1) := by decide +kernel
theorem dX12_feed_7 : decode cX12_feed 7 = .ok (.sipush 400, 3) := by decide +kernel
theorem dX12_feed_10 : decode cX12_feed 10 = .ok (.if_icmp .le 6, 3) := by decide +kernel
theorem dX12_feed_13 : decode cX12_feed 13 = .ok (.bipush (-3), 2) := by decide +kernel
theorem dX12_feed_15 : decode cX12_feed 15 = .ok (.ireturn, 1) := by decide +kernel
theorem dX12_feed_16 : decode cX12_feed 16 = .ok (.aload_n 0, 1) := by decide +kernel
theorem dX12_feed_17 : decode cX12_feed 17 = .ok (.iload_n 1, 1) := by decide +kernel
theorem dX12_feed_18 : decode cX12_feed 18 = .ok (.invokevirtual 206, 3) := by decide +kernel
theorem dX12_feed_21 : decode cX12_feed 21 = .ok (.aload_n 0, 1) := by decide +kernel
theorem dX12_feed_22 : decode cX12_feed 22 = .ok (.iload_n 2, 1) := by decide +kernel
theorem dX12_feed_23 : decode cX12_feed 23 = .ok (.invokevirtual 206, 3) := by decide +kernel
theorem dX12_feed_26 : decode cX12_feed 26 = .ok (.aload_n 0, 1) := by decide +kernel
theorem dX12_feed_27 : decode cX12_feed 27 = .ok (.iload_n 3, 1) := by decide +kernel
theorem dX12_feed_28 : decode cX12_feed 28 = .ok (.invokevirtual 206, 3) := by decide +kernel
theorem dX12_feed_31 : decode cX12_feed 31 = .ok (.aload_n 0, 1) := by decide +kernel
theorem dX12_feed_32 : decode cX12_feed 32 = .ok (.iload 4, 2) := by decide +kernel
theorem dX12_feed_34 : decode cX12_feed 34 = .ok (.invokevirtual 206, 3) := by decide +kernel
theorem dX12_feed_37 : decode cX12_feed 37 = .ok (.aload_n 0, 1) := by decide +kernel
theorem dX12_feed_38 : decode cX12_feed 38 = .ok (.iload 5, 2) := by decide +kernel
theorem dX12_feed_40 : decode cX12_feed 40 = .ok (.invokevirtual 206, 3) := by decide +kernel
theorem dX12_feed_43 : decode cX12_feed 43 = .ok (.aload_n 0, 1) := by decide +kernel
theorem dX12_feed_44 : decode cX12_feed 44 = .ok (.getfield 203, 3) := by decide +kernel
theorem dX12_feed_47 : decode cX12_feed 47 = .ok (.ireturn, 1) := by decide +kernel
theorem dX12_lay_0 : decode cX12_lay 0 = .ok (.bipush 24, 2) := by decide +kernel
theorem dX12_lay_2 : decode cX12_lay 2 = .ok (.istore_n 2, 1) := by decide +kernel
theorem dX12_lay_3 : decode cX12_lay 3 = .ok (.iload_n 2, 1) := by decide +kernel
theorem dX12_lay_4 : decode cX12_lay 4 = .ok (.ifCond .lt 32, 3) := by decide +kernel
theorem dX12_lay_7 : decode cX12_lay 7 = .ok (.aload_n 0, 1) := by decide +kernel
theorem dX12_lay_8 : decode cX12_lay 8 = .ok (.getfield 20, 3) := by decide +kernel
theorem dX12_lay_11 : decode cX12_lay 11 = .ok (.aload_n 0, 1) := by decide +kernel
theorem dX12_lay_12 : decode cX12_lay 12 = .ok (.getfield 203, 3) := by decide +kernel
theorem dX12_lay_15 : decode cX12_lay 15 = .ok (.iload_n 1, 1) := by decide +kernel
theorem dX12_lay_16 : decode cX12_lay 16 = .ok (.iload_n 2, 1) := by decide +kernel
theorem dX12_lay_17 : decode cX12_lay 17 = .ok (.ishr, 1) := by decide +kernel
theorem dX12_lay_18 : decode cX12_lay 18 = .ok (.i2b, 1) := by decide +kernel
theorem dX12_lay_19 : decode cX12_lay 19 = .ok (.bastore, 1) := by decide +kernel
theorem dX12_lay_20 : decode cX12_lay 20 = .ok (.aload_n 0, 1) := by decide +kernel
theorem dX12_lay_21 : decode cX12_lay 21 = .ok (.dup, 1) := by decide +kernel
theorem dX12_lay_22 : decode cX12_lay 22 = .ok (.getfield 203, 3) := by decide +kernel
theorem dX12_lay_25 : decode cX12_lay 25 = .ok (.iconst 1, 1) := by decide +kernel
theorem dX12_lay_26 : decode cX12_lay 26 = .ok (.iadd, 1) := by decide +kernel
theorem dX12_lay_27 : decode cX12_lay 27 = .ok (.putfield 203, 3) := by decide +kernel
theorem dX12_lay_30 : decode cX12_lay 30 = .ok (.iinc 2 (-8), 3) := by decide +kernel
theorem dX12_lay_33 : decode cX12_lay 33 = .ok (.goto (-30), 3) := by decide +kernel
theorem dX12_lay_36 : decode cX12_lay 36 = .ok (.return_, 1) := by decide +kernel
theorem dX12_end_0 : decode cX12_end 0 = .ok (.iload_n 1, 1) := by decide +kernel
theorem dX12_end_1 : decode cX12_end 1 = .ok (.i2l, 1) := by decide +kernel
theorem dX12_end_2 : decode cX12_end 2 = .ok (.lconst 0, 1) := by decide +kernel
theorem dX12_end_3 : decode cX12_end 3 = .ok (.aload_n 0, 1) := by decide +kernel
theorem dX12_end_4 : decode cX12_end 4 = .ok (.getfield 203, 3) := by decide +kernel
theorem dX12_end_7 : decode cX12_end 7 = .ok (.i2l, 1) := by decide +kernel
theorem dX12_end_8 : decode cX12_end 8 = .ok (.invokestatic 58, 3) := by decide +kernel
theorem dX12_end_11 : decode cX12_end 11 = .ok (.ifCond .ne 5, 3) := by decide +kernel
theorem dX12_end_14 : decode cX12_end 14 = .ok (.iconst (-1), 1) := by decide +kernel
theorem dX12_end_15 : decode cX12_end 15 = .ok (.ireturn, 1) := by decide +kernel
theorem dX12_end_16 : decode cX12_end 16 = .ok (.aload_n 0, 1) := by decide +kernel
theorem dX12_end_17 : decode cX12_end 17 = .ok (.iload_n 1, 1) := by decide +kernel
theorem dX12_end_18 : decode cX12_end 18 = .ok (.putfield 203, 3) := by decide +kernel
theorem dX12_end_21 : decode cX12_end 21 = .ok (.iload_n 1, 1) := by decide +kernel
theorem dX12_end_22 : decode cX12_end 22 = .ok (.ireturn, 1) := by decide +kernel
theorem dX12_trust_0 : decode cX12_trust 0 = .ok (.aload_n 0, 1) := by decide +kernel
theorem dX12_trust_1 : decode cX12_trust 1 = .ok (.aload_n 0, 1) := by decide +kernel
theorem dX12_trust_2 : decode cX12_trust 2 = .ok (.getfield 203, 3) := by decide +kernel
theorem dX12_trust_5 : decode cX12_trust 5 = .ok (.putfield 17, 3) := by decide +kernel
theorem dX12_trust_8 : decode cX12_trust 8 = .ok (.aload_n 0, 1) := by decide +kernel
theorem dX12_trust_9 : decode cX12_trust 9 = .ok (.iconst 0, 1) := by decide +kernel
theorem dX12_trust_10 : decode cX12_trust 10 = .ok (.putfield 203, 3) := by decide +kernel
theorem dX12_trust_13 : decode cX12_trust 13 = .ok (.aload_n 0, 1) := by decide +kernel
theorem dX12_trust_14 : decode cX12_trust 14 = .ok (.iconst 0, 1) := by decide +kernel
theorem dX12_trust_15 : decode cX12_trust 15 = .ok (.putfield 24, 3) := by decide +kernel
theorem dX12_trust_18 : decode cX12_trust 18 = .ok (.aload_n 0, 1) := by decide +kernel
theorem dX12_trust_19 : decode cX12_trust 19 = .ok (.iconst 0, 1) := by decide +kernel
theorem dX12_trust_20 : decode cX12_trust 20 = .ok (.putfield 1, 3) := by decide +kernel
theorem dX12_trust_23 : decode cX12_trust 23 = .ok (.aload_n 0, 1) := by decide +kernel
theorem dX12_trust_24 : decode cX12_trust 24 = .ok (.iconst (-1), 1) := by decide +kernel
theorem dX12_trust_25 : decode cX12_trust 25 = .ok (.putfield 10, 3) := by decide +kernel
theorem dX12_trust_28 : decode cX12_trust 28 = .ok (.aload_n 0, 1) := by decide +kernel
theorem dX12_trust_29 : decode cX12_trust 29 = .ok (.invokevirtual 62, 3) := by decide +kernel
theorem dX12_trust_32 : decode cX12_trust 32 = .ok (.aload_n 0, 1) := by decide +kernel
theorem dX12_trust_33 : decode cX12_trust 33 = .ok (.invokevirtual 209, 3) := by decide +kernel
theorem dX12_trust_36 : decode cX12_trust 36 = .ok (.istore_n 1, 1) := by decide +kernel
theorem dX12_trust_37 : decode cX12_trust 37 = .ok (.goto 6, 3) := by decide +kernel
theorem dX12_trust_40 : decode cX12_trust 40 = .ok (.astore_n 2, 1) := by decide +kernel
theorem dX12_trust_41 : decode cX12_trust 41 = .ok (.iconst (-1), 1) := by decide +kernel
theorem dX12_trust_42 : decode cX12_trust 42 = .ok (.ireturn, 1) := by decide +kernel
theorem dX12_trust_43 : decode cX12_trust 43 = .ok (.iconst 0, 1) := by decide +kernel
theorem dX12_trust_44 : decode cX12_trust 44 = .ok (.istore_n 2, 1) := by decide +kernel
theorem dX12_trust_45 : decode cX12_trust 45 = .ok (.iload_n 2, 1) := by decide +kernel
theorem dX12_trust_46 : decode cX12_trust 46 = .ok (.bipush 9, 2) := by decide +kernel
theorem dX12_trust_48 : decode cX12_trust 48 = .ok (.if_icmp .ge 21, 3) := by decide +kernel
theorem dX12_trust_51 : decode cX12_trust 51 = .ok (.aload_n 0, 1) := by decide +kernel
theorem dX12_trust_52 : decode cX12_trust 52 = .ok (.getfield 114, 3) := by decide +kernel
theorem dX12_trust_55 : decode cX12_trust 55 = .ok (.iload_n 2, 1) := by decide +kernel
theorem dX12_trust_56 : decode cX12_trust 56 = .ok (.aload_n 0, 1) := by decide +kernel
theorem dX12_trust_57 : decode cX12_trust 57 = .ok (.getfield 82, 3) := by decide +kernel
theorem dX12_trust_60 : decode cX12_trust 60 = .ok (.iload_n 2, 1) := by decide +kernel
theorem dX12_trust_61 : decode cX12_trust 61 = .ok (.iaload, 1) := by decide +kernel
theorem dX12_trust_62 : decode cX12_trust 62 = .ok (.iastore, 1) := by decide +kernel
theorem dX12_trust_63 : decode cX12_trust 63 = .ok (.iinc 2 1, 3) := by decide +kernel
theorem dX12_trust_66 : decode cX12_trust 66 = .ok (.goto (-21), 3) := by decide +kernel
theorem dX12_trust_69 : decode cX12_trust 69 = .ok (.iload_n 1, 1) := by decide +kernel
theorem dX12_trust_70 : decode cX12_trust 70 = .ok (.ireturn, 1) := by decide +kernel
theorem dX12_fault_0 : decode cX12_fault 0 = .ok (.iload_n 1, 1) := by decide +kernel
theorem dX12_fault_1 : decode cX12_fault 1 = .ok (.ifCond .ne 10, 3) := by decide +kernel
theorem dX12_fault_4 : decode cX12_fault 4 = .ok (.aload_n 0, 1) := by decide +kernel
theorem dX12_fault_5 : decode cX12_fault 5 = .ok (.getfield 1, 3) := by decide +kernel
theorem dX12_fault_8 : decode cX12_fault 8 = .ok (.goto 16, 3) := by decide +kernel
theorem dX12_fault_11 : decode cX12_fault 11 = .ok (.iload_n 1, 1) := by decide +kernel
theorem dX12_fault_12 : decode cX12_fault 12 = .ok (.iconst 1, 1) := by decide +kernel
theorem dX12_fault_13 : decode cX12_fault 13 = .ok (.if_icmp .ne 10, 3) := by decide +kernel
theorem dX12_fault_16 : decode cX12_fault 16 = .ok (.aload_n 0, 1) := by decide +kernel
theorem dX12_fault_17 : decode cX12_fault 17 = .ok (.getfield 10, 3) := by decide +kernel
theorem dX12_fault_20 : decode cX12_fault 20 = .ok (.goto 4, 3) := by decide +kernel
theorem dX12_fault_23 : decode cX12_fault 23 = .ok (.iconst (-1), 1) := by decide +kernel
theorem dX12_fault_24 : decode cX12_fault 24 = .ok (.ireturn, 1) := by decide +kernel
theorem dX12_rule_0 : decode cX12_rule 0 = .ok (.iload_n 1, 1) := by decide +kernel
theorem dX12_rule_1 : decode cX12_rule 1 = .ok (.i2l, 1) := by decide +kernel
theorem dX12_rule_2 : decode cX12_rule 2 = .ok (.lconst 0, 1) := by decide +kernel
theorem dX12_rule_3 : decode cX12_rule 3 = .ok (.ldc2_w 212, 3) := by decide +kernel
theorem dX12_rule_6 : decode cX12_rule 6 = .ok (.invokestatic 58, 3) := by decide +kernel
theorem dX12_rule_9 : decode cX12_rule 9 = .ok (.ifCond .eq 12, 3) := by decide +kernel
theorem dX12_rule_12 : decode cX12_rule 12 = .ok (.aload_n 0, 1) := by decide +kernel
theorem dX12_rule_13 : decode cX12_rule 13 = .ok (.getfield 114, 3) := by decide +kernel
theorem dX12_rule_16 : decode cX12_rule 16 = .ok (.iload_n 1, 1) := by decide +kernel
theorem dX12_rule_17 : decode cX12_rule 17 = .ok (.iaload, 1) := by decide +kernel
theorem dX12_rule_18 : decode cX12_rule 18 = .ok (.goto 5, 3) := by decide +kernel
theorem dX12_rule_21 : decode cX12_rule 21 = .ok (.bipush (-9), 2) := by decide +kernel
theorem dX12_rule_23 : decode cX12_rule 23 = .ok (.ireturn, 1) := by decide +kernel
theorem dX12_isGiver_0 : decode cX12_isGiver 0 = .ok (.iload_n 0, 1) := by decide +kernel
theorem dX12_isGiver_1 : decode cX12_isGiver 1 = .ok (.i2l, 1) := by decide +kernel
theorem dX12_isGiver_2 : decode cX12_isGiver 2 = .ok (.lconst 0, 1) := by decide +kernel
theorem dX12_isGiver_3 : decode cX12_isGiver 3 = .ok (.ldc2_w 214, 3) := by decide +kernel
theorem dX12_isGiver_6 : decode cX12_isGiver 6 = .ok (.invokestatic 58, 3) := by decide +kernel
theorem dX12_isGiver_9 : decode cX12_isGiver 9 = .ok (.ireturn, 1) := by decide +kernel
theorem dX12_isMonth_0 : decode cX12_isMonth 0 = .ok (.iload_n 0, 1) := by decide +kernel
theorem dX12_isMonth_1 : decode cX12_isMonth 1 = .ok (.i2l, 1) := by decide +kernel
theorem dX12_isMonth_2 : decode cX12_isMonth 2 = .ok (.lconst 0, 1) := by decide +kernel
theorem dX12_isMonth_3 : decode cX12_isMonth 3 = .ok (.ldc2_w 216, 3) := by decide +kernel
theorem dX12_isMonth_6 : decode cX12_isMonth 6 = .ok (.invokestatic 58, 3) := by decide +kernel
theorem dX12_isMonth_9 : decode cX12_isMonth 9 = .ok (.ireturn, 1) := by decide +kernel
theorem dX12_declare_0 : decode cX12_declare 0 = .ok (.iload_n 1, 1) := by decide +kernel
theorem dX12_declare_1 : decode cX12_declare 1 = .ok (.invokestatic 218, 3) := by decide +kernel
theorem dX12_declare_4 : decode cX12_declare 4 = .ok (.ifCond .eq 23, 3) := by decide +kernel
theorem dX12_declare_7 : decode cX12_declare 7 = .ok (.iload_n 2, 1) := by decide +kernel
theorem dX12_declare_8 : decode cX12_declare 8 = .ok (.invokestatic 221, 3) := by decide +kernel
theorem dX12_declare_11 : decode cX12_declare 11 = .ok (.ifCond .eq 16, 3) := by decide +kernel
theorem dX12_declare_14 : decode cX12_declare 14 = .ok (.iload_n 3, 1) := by decide +kernel
theorem dX12_declare_15 : decode cX12_declare 15 = .ok (.i2l, 1) := by decide +kernel
theorem dX12_declare_16 : decode cX12_declare 16 = .ok (.iload_n 2, 1) := by decide +kernel
theorem dX12_declare_17 : decode cX12_declare 17 = .ok (.i2l, 1) := by decide +kernel
theorem dX12_declare_18 : decode cX12_declare 18 = .ok (.ldc2_w 216, 3) := by decide +kernel
theorem dX12_declare_21 : decode cX12_declare 21 = .ok (.invokestatic 58, 3) := by decide +kernel
theorem dX12_declare_24 : decode cX12_declare 24 = .ok (.ifCond .ne 6, 3) := by decide +kernel
theorem dX12_declare_27 : decode cX12_declare 27 = .ok (.bipush (-2), 2) := by decide +kernel
theorem dX12_declare_29 : decode cX12_declare 29 = .ok (.ireturn, 1) := by decide +kernel
theorem dX12_declare_30 : decode cX12_declare 30 = .ok (.aload_n 0, 1) := by decide +kernel
theorem dX12_declare_31 : decode cX12_declare 31 = .ok (.getfield 224, 3) := by decide +kernel
theorem dX12_declare_34 : decode cX12_declare 34 = .ok (.ifCond .eq 6, 3) := by decide +kernel
theorem dX12_declare_37 : decode cX12_declare 37 = .ok (.bipush (-4), 2) := by decide +kernel
theorem dX12_declare_39 : decode cX12_declare 39 = .ok (.ireturn, 1) := by decide +kernel
theorem dX12_declare_40 : decode cX12_declare 40 = .ok (.aload_n 0, 1) := by decide +kernel
theorem dX12_declare_41 : decode cX12_declare 41 = .ok (.getfield 120, 3) := by decide +kernel
theorem dX12_declare_44 : decode cX12_declare 44 = .ok (.iload_n 1, 1) := by decide +kernel
theorem dX12_declare_45 : decode cX12_declare 45 = .ok (.iload_n 2, 1) := by decide +kernel
theorem dX12_declare_46 : decode cX12_declare 46 = .ok (.iastore, 1) := by decide +kernel
theorem dX12_declare_47 : decode cX12_declare 47 = .ok (.aload_n 0, 1) := by decide +kernel
theorem dX12_declare_48 : decode cX12_declare 48 = .ok (.getfield 123, 3) := by decide +kernel
theorem dX12_declare_51 : decode cX12_declare 51 = .ok (.iload_n 1, 1) := by decide +kernel
theorem dX12_declare_52 : decode cX12_declare 52 = .ok (.iload_n 3, 1) := by decide +kernel
theorem dX12_declare_53 : decode cX12_declare 53 = .ok (.iastore, 1) := by decide +kernel
theorem dX12_declare_54 : decode cX12_declare 54 = .ok (.iconst 1, 1) := by decide +kernel
theorem dX12_declare_55 : decode cX12_declare 55 = .ok (.ireturn, 1) := by decide +kernel
theorem dX12_nameless_0 : decode cX12_nameless 0 = .ok (.iload_n 1, 1) := by decide +kernel
theorem dX12_nameless_1 : decode cX12_nameless 1 = .ok (.invokestatic 218, 3) := by decide +kernel
theorem dX12_nameless_4 : decode cX12_nameless 4 = .ok (.ifCond .ne 6, 3) := by decide +kernel
theorem dX12_nameless_7 : decode cX12_nameless 7 = .ok (.bipush (-2), 2) := by decide +kernel
theorem dX12_nameless_9 : decode cX12_nameless 9 = .ok (.ireturn, 1) := by decide +kernel
theorem dX12_nameless_10 : decode cX12_nameless 10 = .ok (.aload_n 0, 1) := by decide +kernel
theorem dX12_nameless_11 : decode cX12_nameless 11 = .ok (.getfield 224, 3) := by decide +kernel
theorem dX12_nameless_14 : decode cX12_nameless 14 = .ok (.ifCond .eq 6, 3) := by decide +kernel
theorem dX12_nameless_17 : decode cX12_nameless 17 = .ok (.bipush (-4), 2) := by decide +kernel
theorem dX12_nameless_19 : decode cX12_nameless 19 = .ok (.ireturn, 1) := by decide +kernel
theorem dX12_nameless_20 : decode cX12_nameless 20 = .ok (.aload_n 0, 1) := by decide +kernel
theorem dX12_nameless_21 : decode cX12_nameless 21 = .ok (.getfield 132, 3) := by decide +kernel
theorem dX12_nameless_24 : decode cX12_nameless 24 = .ok (.iload_n 1, 1) := by decide +kernel
theorem dX12_nameless_25 : decode cX12_nameless 25 = .ok (.baload, 1) := by decide +kernel
theorem dX12_nameless_26 : decode cX12_nameless 26 = .ok (.istore_n 3, 1) := by decide +kernel
theorem dX12_nameless_27 : decode cX12_nameless 27 = .ok (.aload_n 0, 1) := by decide +kernel
theorem dX12_nameless_28 : decode cX12_nameless 28 = .ok (.getfield 132, 3) := by decide +kernel
theorem dX12_nameless_31 : decode cX12_nameless 31 = .ok (.iload_n 1, 1) := by decide +kernel
theorem dX12_nameless_32 : decode cX12_nameless 32 = .ok (.iload_n 2, 1) := by decide +kernel
theorem dX12_nameless_33 : decode cX12_nameless 33 = .ok (.bastore, 1) := by decide +kernel
theorem dX12_nameless_34 : decode cX12_nameless 34 = .ok (.iload_n 3, 1) := by decide +kernel
theorem dX12_nameless_35 : decode cX12_nameless 35 = .ok (.iload_n 2, 1) := by decide +kernel
theorem dX12_nameless_36 : decode cX12_nameless 36 = .ok (.if_icmp .ne 7, 3) := by decide +kernel
theorem dX12_nameless_39 : decode cX12_nameless 39 = .ok (.iconst 0, 1) := by decide +kernel
theorem dX12_nameless_40 : decode cX12_nameless 40 = .ok (.goto 4, 3) := by decide +kernel
theorem dX12_nameless_43 : decode cX12_nameless 43 = .ok (.iconst 1, 1) := by decide +kernel
theorem dX12_nameless_44 : decode cX12_nameless 44 = .ok (.ireturn, 1) := by decide +kernel
theorem dX12_monthOf_0 : decode cX12_monthOf 0 = .ok (.aload_n 0, 1) := by decide +kernel
theorem dX12_monthOf_1 : decode cX12_monthOf 1 = .ok (.getfield 141, 3) := by decide +kernel
theorem dX12_monthOf_4 : decode cX12_monthOf 4 = .ok (.iload_n 1, 1) := by decide +kernel
theorem dX12_monthOf_5 : decode cX12_monthOf 5 = .ok (.iaload, 1) := by decide +kernel
theorem dX12_monthOf_6 : decode cX12_monthOf 6 = .ok (.iload_n 2, 1) := by decide +kernel
theorem dX12_monthOf_7 : decode cX12_monthOf 7 = .ok (.aload_n 0, 1) := by decide +kernel
theorem dX12_monthOf_8 : decode cX12_monthOf 8 = .ok (.getfield 144, 3) := by decide +kernel
theorem dX12_monthOf_11 : decode cX12_monthOf 11 = .ok (.iload_n 1, 1) := by decide +kernel
theorem dX12_monthOf_12 : decode cX12_monthOf 12 = .ok (.iaload, 1) := by decide +kernel
theorem dX12_monthOf_13 : decode cX12_monthOf 13 = .ok (.imul, 1) := by decide +kernel
theorem dX12_monthOf_14 : decode cX12_monthOf 14 = .ok (.iadd, 1) := by decide +kernel
theorem dX12_monthOf_15 : decode cX12_monthOf 15 = .ok (.ireturn, 1) := by decide +kernel
theorem dX12_pledge_0 : decode cX12_pledge 0 = .ok (.iload_n 1, 1) := by decide +kernel
theorem dX12_pledge_1 : decode cX12_pledge 1 = .ok (.invokestatic 218, 3) := by decide +kernel
theorem dX12_pledge_4 : decode cX12_pledge 4 = .ok (.ifCond .eq 57, 3) := by decide +kernel
theorem dX12_pledge_7 : decode cX12_pledge 7 = .ok (.iload_n 2, 1) := by decide +kernel
theorem dX12_pledge_8 : decode cX12_pledge 8 = .ok (.i2l, 1) := by decide +kernel
theorem dX12_pledge_9 : decode cX12_pledge 9 = .ok (.lconst 1, 1) := by decide +kernel
theorem dX12_pledge_10 : decode cX12_pledge 10 = .ok (.ldc2_w 228, 3) := by decide +kernel
theorem dX12_pledge_13 : decode cX12_pledge 13 = .ok (.invokestatic 58, 3) := by decide +kernel
theorem dX12_pledge_16 : decode cX12_pledge 16 = .ok (.ifCond .eq 45, 3) := by decide +kernel
theorem dX12_pledge_19 : decode cX12_pledge 19 = .ok (.iload_n 3, 1) := by decide +kernel
theorem dX12_pledge_20 : decode cX12_pledge 20 = .ok (.i2l, 1) := by decide +kernel
theorem dX12_pledge_21 : decode cX12_pledge 21 = .ok (.aload_n 0, 1) := by decide +kernel
theorem dX12_pledge_22 : decode cX12_pledge 22 = .ok (.getfield 230, 3) := by decide +kernel
theorem dX12_pledge_25 : decode cX12_pledge 25 = .ok (.i2l, 1) := by decide +kernel
theorem dX12_pledge_26 : decode cX12_pledge 26 = .ok (.ldc2_w 216, 3) := by decide +kernel
theorem dX12_pledge_29 : decode cX12_pledge 29 = .ok (.invokestatic 58, 3) := by decide +kernel
theorem dX12_pledge_32 : decode cX12_pledge 32 = .ok (.ifCond .eq 29, 3) := by decide +kernel
theorem dX12_pledge_35 : decode cX12_pledge 35 = .ok (.iload 4, 2) := by decide +kernel
theorem dX12_pledge_37 : decode cX12_pledge 37 = .ok (.i2l, 1) := by decide +kernel
theorem dX12_pledge_38 : decode cX12_pledge 38 = .ok (.lconst 1, 1) := by decide +kernel
theorem dX12_pledge_39 : decode cX12_pledge 39 = .ok (.ldc2_w 233, 3) := by decide +kernel
theorem dX12_pledge_42 : decode cX12_pledge 42 = .ok (.invokestatic 58, 3) := by decide +kernel
theorem dX12_pledge_45 : decode cX12_pledge 45 = .ok (.ifCond .eq 16, 3) := by decide +kernel
theorem dX12_pledge_48 : decode cX12_pledge 48 = .ok (.iload 5, 2) := by decide +kernel
theorem dX12_pledge_50 : decode cX12_pledge 50 = .ok (.i2l, 1) := by decide +kernel
theorem dX12_pledge_51 : decode cX12_pledge 51 = .ok (.lconst 1, 1) := by decide +kernel
theorem dX12_pledge_52 : decode cX12_pledge 52 = .ok (.ldc2_w 235, 3) := by decide +kernel
theorem dX12_pledge_55 : decode cX12_pledge 55 = .ok (.invokestatic 58, 3) := by decide +kernel
theorem dX12_pledge_58 : decode cX12_pledge 58 = .ok (.ifCond .ne 6, 3) := by decide +kernel
theorem dX12_pledge_61 : decode cX12_pledge 61 = .ok (.bipush (-2), 2) := by decide +kernel
theorem dX12_pledge_63 : decode cX12_pledge 63 = .ok (.ireturn, 1) := by decide +kernel
theorem dX12_pledge_64 : decode cX12_pledge 64 = .ok (.aload_n 0, 1) := by decide +kernel
theorem dX12_pledge_65 : decode cX12_pledge 65 = .ok (.getfield 224, 3) := by decide +kernel
theorem dX12_pledge_68 : decode cX12_pledge 68 = .ok (.ifCond .eq 6, 3) := by decide +kernel
theorem dX12_pledge_71 : decode cX12_pledge 71 = .ok (.bipush (-4), 2) := by decide +kernel
theorem dX12_pledge_73 : decode cX12_pledge 73 = .ok (.ireturn, 1) := by decide +kernel
theorem dX12_pledge_74 : decode cX12_pledge 74 = .ok (.aload_n 0, 1) := by decide +kernel
theorem dX12_pledge_75 : decode cX12_pledge 75 = .ok (.getfield 237, 3) := by decide +kernel
theorem dX12_pledge_78 : decode cX12_pledge 78 = .ok (.bipush 60, 2) := by decide +kernel
theorem dX12_pledge_80 : decode cX12_pledge 80 = .ok (.if_icmp .ne 6, 3) := by decide +kernel
theorem dX12_pledge_83 : decode cX12_pledge 83 = .ok (.bipush (-3), 2) := by decide +kernel
theorem dX12_pledge_85 : decode cX12_pledge 85 = .ok (.ireturn, 1) := by decide +kernel
theorem dX12_pledge_86 : decode cX12_pledge 86 = .ok (.aload_n 0, 1) := by decide +kernel
theorem dX12_pledge_87 : decode cX12_pledge 87 = .ok (.getfield 237, 3) := by decide +kernel
theorem dX12_pledge_90 : decode cX12_pledge 90 = .ok (.istore 6, 2) := by decide +kernel
theorem dX12_pledge_92 : decode cX12_pledge 92 = .ok (.aload_n 0, 1) := by decide +kernel
theorem dX12_pledge_93 : decode cX12_pledge 93 = .ok (.getfield 135, 3) := by decide +kernel
theorem dX12_pledge_96 : decode cX12_pledge 96 = .ok (.iload 6, 2) := by decide +kernel
theorem dX12_pledge_98 : decode cX12_pledge 98 = .ok (.iload_n 1, 1) := by decide +kernel
theorem dX12_pledge_99 : decode cX12_pledge 99 = .ok (.iastore, 1) := by decide +kernel
theorem dX12_pledge_100 : decode cX12_pledge 100 = .ok (.aload_n 0, 1) := by decide +kernel
theorem dX12_pledge_101 : decode cX12_pledge 101 = .ok (.getfield 138, 3) := by decide +kernel
theorem dX12_pledge_104 : decode cX12_pledge 104 = .ok (.iload 6, 2) := by decide +kernel
theorem dX12_pledge_106 : decode cX12_pledge 106 = .ok (.iload_n 2, 1) := by decide +kernel
theorem dX12_pledge_107 : decode cX12_pledge 107 = .ok (.iastore, 1) := by decide +kernel
theorem dX12_pledge_108 : decode cX12_pledge 108 = .ok (.aload_n 0, 1) := by decide +kernel
theorem dX12_pledge_109 : decode cX12_pledge 109 = .ok (.getfield 141, 3) := by decide +kernel
theorem dX12_pledge_112 : decode cX12_pledge 112 = .ok (.iload 6, 2) := by decide +kernel
theorem dX12_pledge_114 : decode cX12_pledge 114 = .ok (.iload_n 3, 1) := by decide +kernel
theorem dX12_pledge_115 : decode cX12_pledge 115 = .ok (.iastore, 1) := by decide +kernel
theorem dX12_pledge_116 : decode cX12_pledge 116 = .ok (.aload_n 0, 1) := by decide +kernel
theorem dX12_pledge_117 : decode cX12_pledge 117 = .ok (.getfield 144, 3) := by decide +kernel
theorem dX12_pledge_120 : decode cX12_pledge 120 = .ok (.iload 6, 2) := by decide +kernel
theorem dX12_pledge_122 : decode cX12_pledge 122 = .ok (.iload 4, 2) := by decide +kernel
theorem dX12_pledge_124 : decode cX12_pledge 124 = .ok (.iastore, 1) := by decide +kernel
theorem dX12_pledge_125 : decode cX12_pledge 125 = .ok (.aload_n 0, 1) := by decide +kernel
theorem dX12_pledge_126 : decode cX12_pledge 126 = .ok (.getfield 147, 3) := by decide +kernel
theorem dX12_pledge_129 : decode cX12_pledge 129 = .ok (.iload 6, 2) := by decide +kernel
theorem dX12_pledge_131 : decode cX12_pledge 131 = .ok (.iload 5, 2) := by decide +kernel
theorem dX12_pledge_133 : decode cX12_pledge 133 = .ok (.iastore, 1) := by decide +kernel
theorem dX12_pledge_134 : decode cX12_pledge 134 = .ok (.aload_n 0, 1) := by decide +kernel
theorem dX12_pledge_135 : decode cX12_pledge 135 = .ok (.getfield 150, 3) := by decide +kernel
theorem dX12_pledge_138 : decode cX12_pledge 138 = .ok (.iload 6, 2) := by decide +kernel
theorem dX12_pledge_140 : decode cX12_pledge 140 = .ok (.iconst (-1), 1) := by decide +kernel
theorem dX12_pledge_141 : decode cX12_pledge 141 = .ok (.iastore, 1) := by decide +kernel
theorem dX12_pledge_142 : decode cX12_pledge 142 = .ok (.iconst 0, 1) := by decide +kernel
theorem dX12_pledge_143 : decode cX12_pledge 143 = .ok (.istore 7, 2) := by decide +kernel
theorem dX12_pledge_145 : decode cX12_pledge 145 = .ok (.iload 7, 2) := by decide +kernel
theorem dX12_pledge_147 : decode cX12_pledge 147 = .ok (.iload 5, 2) := by decide +kernel
theorem dX12_pledge_149 : decode cX12_pledge 149 = .ok (.if_icmp .ge 80, 3) := by decide +kernel
theorem dX12_pledge_152 : decode cX12_pledge 152 = .ok (.aload_n 0, 1) := by decide +kernel
theorem dX12_pledge_153 : decode cX12_pledge 153 = .ok (.getfield 159, 3) := by decide +kernel
theorem dX12_pledge_156 : decode cX12_pledge 156 = .ok (.bipush 84, 2) := by decide +kernel
theorem dX12_pledge_158 : decode cX12_pledge 158 = .ok (.iload 6, 2) := by decide +kernel
theorem dX12_pledge_160 : decode cX12_pledge 160 = .ok (.imul, 1) := by decide +kernel
theorem dX12_pledge_161 : decode cX12_pledge 161 = .ok (.iload 7, 2) := by decide +kernel
theorem dX12_pledge_163 : decode cX12_pledge 163 = .ok (.iadd, 1) := by decide +kernel
theorem dX12_pledge_164 : decode cX12_pledge 164 = .ok (.iload_n 2, 1) := by decide +kernel
theorem dX12_pledge_165 : decode cX12_pledge 165 = .ok (.iastore, 1) := by decide +kernel
theorem dX12_pledge_166 : decode cX12_pledge 166 = .ok (.aload_n 0, 1) := by decide +kernel
theorem dX12_pledge_167 : decode cX12_pledge 167 = .ok (.getfield 165, 3) := by decide +kernel
theorem dX12_pledge_170 : decode cX12_pledge 170 = .ok (.bipush 84, 2) := by decide +kernel
theorem dX12_pledge_172 : decode cX12_pledge 172 = .ok (.iload 6, 2) := by decide +kernel
theorem dX12_pledge_174 : decode cX12_pledge 174 = .ok (.imul, 1) := by decide +kernel
theorem dX12_pledge_175 : decode cX12_pledge 175 = .ok (.iload 7, 2) := by decide +kernel
theorem dX12_pledge_177 : decode cX12_pledge 177 = .ok (.iadd, 1) := by decide +kernel
theorem dX12_pledge_178 : decode cX12_pledge 178 = .ok (.aload_n 0, 1) := by decide +kernel
theorem dX12_pledge_179 : decode cX12_pledge 179 = .ok (.iload 6, 2) := by decide +kernel
theorem dX12_pledge_181 : decode cX12_pledge 181 = .ok (.iload 7, 2) := by decide +kernel
theorem dX12_pledge_183 : decode cX12_pledge 183 = .ok (.invokevirtual 240, 3) := by decide +kernel
theorem dX12_pledge_186 : decode cX12_pledge 186 = .ok (.bipush 119, 2) := by decide +kernel
theorem dX12_pledge_188 : decode cX12_pledge 188 = .ok (.if_icmp .gt 7, 3) := by decide +kernel
theorem dX12_pledge_191 : decode cX12_pledge 191 = .ok (.iconst 1, 1) := by decide +kernel
theorem dX12_pledge_192 : decode cX12_pledge 192 = .ok (.goto 4, 3) := by decide +kernel
theorem dX12_pledge_195 : decode cX12_pledge 195 = .ok (.iconst 0, 1) := by decide +kernel
theorem dX12_pledge_196 : decode cX12_pledge 196 = .ok (.bastore, 1) := by decide +kernel
theorem dX12_pledge_197 : decode cX12_pledge 197 = .ok (.aload_n 0, 1) := by decide +kernel
theorem dX12_pledge_198 : decode cX12_pledge 198 = .ok (.getfield 168, 3) := by decide +kernel
theorem dX12_pledge_201 : decode cX12_pledge 201 = .ok (.bipush 84, 2) := by decide +kernel
theorem dX12_pledge_203 : decode cX12_pledge 203 = .ok (.iload 6, 2) := by decide +kernel
theorem dX12_pledge_205 : decode cX12_pledge 205 = .ok (.imul, 1) := by decide +kernel
theorem dX12_pledge_206 : decode cX12_pledge 206 = .ok (.iload 7, 2) := by decide +kernel
theorem dX12_pledge_208 : decode cX12_pledge 208 = .ok (.iadd, 1) := by decide +kernel
theorem dX12_pledge_209 : decode cX12_pledge 209 = .ok (.aload_n 0, 1) := by decide +kernel
theorem dX12_pledge_210 : decode cX12_pledge 210 = .ok (.getfield 165, 3) := by decide +kernel
theorem dX12_pledge_213 : decode cX12_pledge 213 = .ok (.bipush 84, 2) := by decide +kernel
theorem dX12_pledge_215 : decode cX12_pledge 215 = .ok (.iload 6, 2) := by decide +kernel
theorem dX12_pledge_217 : decode cX12_pledge 217 = .ok (.imul, 1) := by decide +kernel
theorem dX12_pledge_218 : decode cX12_pledge 218 = .ok (.iload 7, 2) := by decide +kernel
theorem dX12_pledge_220 : decode cX12_pledge 220 = .ok (.iadd, 1) := by decide +kernel
theorem dX12_pledge_221 : decode cX12_pledge 221 = .ok (.baload, 1) := by decide +kernel
theorem dX12_pledge_222 : decode cX12_pledge 222 = .ok (.bastore, 1) := by decide +kernel
theorem dX12_pledge_223 : decode cX12_pledge 223 = .ok (.iinc 7 1, 3) := by decide +kernel
theorem dX12_pledge_226 : decode cX12_pledge 226 = .ok (.goto (-81), 3) := by decide +kernel
theorem dX12_pledge_229 : decode cX12_pledge 229 = .ok (.aload_n 0, 1) := by decide +kernel
theorem dX12_pledge_230 : decode cX12_pledge 230 = .ok (.dup, 1) := by decide +kernel
theorem dX12_pledge_231 : decode cX12_pledge 231 = .ok (.getfield 237, 3) := by decide +kernel
theorem dX12_pledge_234 : decode cX12_pledge 234 = .ok (.iconst 1, 1) := by decide +kernel
theorem dX12_pledge_235 : decode cX12_pledge 235 = .ok (.iadd, 1) := by decide +kernel
theorem dX12_pledge_236 : decode cX12_pledge 236 = .ok (.putfield 237, 3) := by decide +kernel
theorem dX12_pledge_239 : decode cX12_pledge 239 = .ok (.iload 6, 2) := by decide +kernel
theorem dX12_pledge_241 : decode cX12_pledge 241 = .ok (.ireturn, 1) := by decide +kernel
theorem dX12_isPledge_0 : decode cX12_isPledge 0 = .ok (.iload_n 1, 1) := by decide +kernel
theorem dX12_isPledge_1 : decode cX12_isPledge 1 = .ok (.i2l, 1) := by decide +kernel
theorem dX12_isPledge_2 : decode cX12_isPledge 2 = .ok (.lconst 0, 1) := by decide +kernel
theorem dX12_isPledge_3 : decode cX12_isPledge 3 = .ok (.aload_n 0, 1) := by decide +kernel
theorem dX12_isPledge_4 : decode cX12_isPledge 4 = .ok (.getfield 237, 3) := by decide +kernel
theorem dX12_isPledge_7 : decode cX12_isPledge 7 = .ok (.i2l, 1) := by decide +kernel
theorem dX12_isPledge_8 : decode cX12_isPledge 8 = .ok (.lconst 1, 1) := by decide +kernel
theorem dX12_isPledge_9 : decode cX12_isPledge 9 = .ok (.lsub, 1) := by decide +kernel
theorem dX12_isPledge_10 : decode cX12_isPledge 10 = .ok (.invokestatic 58, 3) := by decide +kernel
theorem dX12_isPledge_13 : decode cX12_isPledge 13 = .ok (.ireturn, 1) := by decide +kernel
theorem dX12_change_0 : decode cX12_change 0 = .ok (.aload_n 0, 1) := by decide +kernel
theorem dX12_change_1 : decode cX12_change 1 = .ok (.iload_n 1, 1) := by decide +kernel
theorem dX12_change_2 : decode cX12_change 2 = .ok (.invokevirtual 243, 3) := by decide +kernel
theorem dX12_change_5 : decode cX12_change 5 = .ok (.ifCond .eq 15, 3) := by decide +kernel
theorem dX12_change_8 : decode cX12_change 8 = .ok (.iload_n 2, 1) := by decide +kernel
theorem dX12_change_9 : decode cX12_change 9 = .ok (.i2l, 1) := by decide +kernel
theorem dX12_change_10 : decode cX12_change 10 = .ok (.lconst 1, 1) := by decide +kernel
theorem dX12_change_11 : decode cX12_change 11 = .ok (.ldc2_w 228, 3) := by decide +kernel
theorem dX12_change_14 : decode cX12_change 14 = .ok (.invokestatic 58, 3) := by decide +kernel
theorem dX12_change_17 : decode cX12_change 17 = .ok (.ifCond .ne 6, 3) := by decide +kernel
theorem dX12_change_20 : decode cX12_change 20 = .ok (.bipush (-2), 2) := by decide +kernel
theorem dX12_change_22 : decode cX12_change 22 = .ok (.ireturn, 1) := by decide +kernel
theorem dX12_change_23 : decode cX12_change 23 = .ok (.aload_n 0, 1) := by decide +kernel
theorem dX12_change_24 : decode cX12_change 24 = .ok (.getfield 224, 3) := by decide +kernel
theorem dX12_change_27 : decode cX12_change 27 = .ok (.ifCond .ne 12, 3) := by decide +kernel
theorem dX12_change_30 : decode cX12_change 30 = .ok (.aload_n 0, 1) := by decide +kernel
theorem dX12_change_31 : decode cX12_change 31 = .ok (.getfield 153, 3) := by decide +kernel
theorem dX12_change_34 : decode cX12_change 34 = .ok (.iload_n 1, 1) := by decide +kernel
theorem dX12_change_35 : decode cX12_change 35 = .ok (.baload, 1) := by decide +kernel
theorem dX12_change_36 : decode cX12_change 36 = .ok (.ifCond .eq 6, 3) := by decide +kernel
theorem dX12_change_39 : decode cX12_change 39 = .ok (.bipush (-4), 2) := by decide +kernel
theorem dX12_change_41 : decode cX12_change 41 = .ok (.ireturn, 1) := by decide +kernel
theorem dX12_change_42 : decode cX12_change 42 = .ok (.aload_n 0, 1) := by decide +kernel
theorem dX12_change_43 : decode cX12_change 43 = .ok (.getfield 138, 3) := by decide +kernel
theorem dX12_change_46 : decode cX12_change 46 = .ok (.iload_n 1, 1) := by decide +kernel
theorem dX12_change_47 : decode cX12_change 47 = .ok (.iload_n 2, 1) := by decide +kernel
theorem dX12_change_48 : decode cX12_change 48 = .ok (.iastore, 1) := by decide +kernel
theorem dX12_change_49 : decode cX12_change 49 = .ok (.iconst 0, 1) := by decide +kernel
theorem dX12_change_50 : decode cX12_change 50 = .ok (.istore_n 3, 1) := by decide +kernel
theorem dX12_change_51 : decode cX12_change 51 = .ok (.iload_n 3, 1) := by decide +kernel
theorem dX12_change_52 : decode cX12_change 52 = .ok (.aload_n 0, 1) := by decide +kernel
theorem dX12_change_53 : decode cX12_change 53 = .ok (.getfield 147, 3) := by decide +kernel
theorem dX12_change_56 : decode cX12_change 56 = .ok (.iload_n 1, 1) := by decide +kernel
theorem dX12_change_57 : decode cX12_change 57 = .ok (.iaload, 1) := by decide +kernel
theorem dX12_change_58 : decode cX12_change 58 = .ok (.if_icmp .ge 48, 3) := by decide +kernel
theorem dX12_change_61 : decode cX12_change 61 = .ok (.aload_n 0, 1) := by decide +kernel
theorem dX12_change_62 : decode cX12_change 62 = .ok (.iload_n 1, 1) := by decide +kernel
theorem dX12_change_63 : decode cX12_change 63 = .ok (.iload_n 3, 1) := by decide +kernel
theorem dX12_change_64 : decode cX12_change 64 = .ok (.invokevirtual 240, 3) := by decide +kernel
theorem dX12_change_67 : decode cX12_change 67 = .ok (.aload_n 0, 1) := by decide +kernel
theorem dX12_change_68 : decode cX12_change 68 = .ok (.getfield 230, 3) := by decide +kernel
theorem dX12_change_71 : decode cX12_change 71 = .ok (.if_icmp .le 29, 3) := by decide +kernel
theorem dX12_change_74 : decode cX12_change 74 = .ok (.aload_n 0, 1) := by decide +kernel
theorem dX12_change_75 : decode cX12_change 75 = .ok (.getfield 162, 3) := by decide +kernel
theorem dX12_change_78 : decode cX12_change 78 = .ok (.bipush 84, 2) := by decide +kernel
theorem dX12_change_80 : decode cX12_change 80 = .ok (.iload_n 1, 1) := by decide +kernel
theorem dX12_change_81 : decode cX12_change 81 = .ok (.imul, 1) := by decide +kernel
theorem dX12_change_82 : decode cX12_change 82 = .ok (.iload_n 3, 1) := by decide +kernel
theorem dX12_change_83 : decode cX12_change 83 = .ok (.iadd, 1) := by decide +kernel
theorem dX12_change_84 : decode cX12_change 84 = .ok (.iaload, 1) := by decide +kernel
theorem dX12_change_85 : decode cX12_change 85 = .ok (.ifCond .ne 15, 3) := by decide +kernel
theorem dX12_change_88 : decode cX12_change 88 = .ok (.aload_n 0, 1) := by decide +kernel
theorem dX12_change_89 : decode cX12_change 89 = .ok (.getfield 159, 3) := by decide +kernel
theorem dX12_change_92 : decode cX12_change 92 = .ok (.bipush 84, 2) := by decide +kernel
theorem dX12_change_94 : decode cX12_change 94 = .ok (.iload_n 1, 1) := by decide +kernel
theorem dX12_change_95 : decode cX12_change 95 = .ok (.imul, 1) := by decide +kernel
theorem dX12_change_96 : decode cX12_change 96 = .ok (.iload_n 3, 1) := by decide +kernel
theorem dX12_change_97 : decode cX12_change 97 = .ok (.iadd, 1) := by decide +kernel
theorem dX12_change_98 : decode cX12_change 98 = .ok (.iload_n 2, 1) := by decide +kernel
theorem dX12_change_99 : decode cX12_change 99 = .ok (.iastore, 1) := by decide +kernel
theorem dX12_change_100 : decode cX12_change 100 = .ok (.iinc 3 1, 3) := by decide +kernel
theorem dX12_change_103 : decode cX12_change 103 = .ok (.goto (-52), 3) := by decide +kernel
theorem dX12_change_106 : decode cX12_change 106 = .ok (.iconst 1, 1) := by decide +kernel
theorem dX12_change_107 : decode cX12_change 107 = .ok (.ireturn, 1) := by decide +kernel
theorem dX12_unfilled_0 : decode cX12_unfilled 0 = .ok (.iconst 0, 1) := by decide +kernel
theorem dX12_unfilled_1 : decode cX12_unfilled 1 = .ok (.istore_n 2, 1) := by decide +kernel
theorem dX12_unfilled_2 : decode cX12_unfilled 2 = .ok (.bipush 84, 2) := by decide +kernel
theorem dX12_unfilled_4 : decode cX12_unfilled 4 = .ok (.iload_n 1, 1) := by decide +kernel
theorem dX12_unfilled_5 : decode cX12_unfilled 5 = .ok (.imul, 1) := by decide +kernel
theorem dX12_unfilled_6 : decode cX12_unfilled 6 = .ok (.istore_n 3, 1) := by decide +kernel
theorem dX12_unfilled_7 : decode cX12_unfilled 7 = .ok (.iload_n 3, 1) := by decide +kernel
theorem dX12_unfilled_8 : decode cX12_unfilled 8 = .ok (.bipush 84, 2) := by decide +kernel
theorem dX12_unfilled_10 : decode cX12_unfilled 10 = .ok (.iload_n 1, 1) := by decide +kernel
theorem dX12_unfilled_11 : decode cX12_unfilled 11 = .ok (.imul, 1) := by decide +kernel
theorem dX12_unfilled_12 : decode cX12_unfilled 12 = .ok (.aload_n 0, 1) := by decide +kernel
theorem dX12_unfilled_13 : decode cX12_unfilled 13 = .ok (.getfield 147, 3) := by decide +kernel
theorem dX12_unfilled_16 : decode cX12_unfilled 16 = .ok (.iload_n 1, 1) := by decide +kernel
theorem dX12_unfilled_17 : decode cX12_unfilled 17 = .ok (.iaload, 1) := by decide +kernel
theorem dX12_unfilled_18 : decode cX12_unfilled 18 = .ok (.iadd, 1) := by decide +kernel
theorem dX12_unfilled_19 : decode cX12_unfilled 19 = .ok (.if_icmp .ge 38, 3) := by decide +kernel
theorem dX12_unfilled_22 : decode cX12_unfilled 22 = .ok (.iload_n 2, 1) := by decide +kernel
theorem dX12_unfilled_23 : decode cX12_unfilled 23 = .ok (.aload_n 0, 1) := by decide +kernel
theorem dX12_unfilled_24 : decode cX12_unfilled 24 = .ok (.getfield 165, 3) := by decide +kernel
theorem dX12_unfilled_27 : decode cX12_unfilled 27 = .ok (.iload_n 3, 1) := by decide +kernel
theorem dX12_unfilled_28 : decode cX12_unfilled 28 = .ok (.baload, 1) := by decide +kernel
theorem dX12_unfilled_29 : decode cX12_unfilled 29 = .ok (.ifCond .eq 19, 3) := by decide +kernel
theorem dX12_unfilled_32 : decode cX12_unfilled 32 = .ok (.aload_n 0, 1) := by decide +kernel
theorem dX12_unfilled_33 : decode cX12_unfilled 33 = .ok (.getfield 159, 3) := by decide +kernel
theorem dX12_unfilled_36 : decode cX12_unfilled 36 = .ok (.iload_n 3, 1) := by decide +kernel
theorem dX12_unfilled_37 : decode cX12_unfilled 37 = .ok (.iaload, 1) := by decide +kernel
theorem dX12_unfilled_38 : decode cX12_unfilled 38 = .ok (.aload_n 0, 1) := by decide +kernel
theorem dX12_unfilled_39 : decode cX12_unfilled 39 = .ok (.getfield 162, 3) := by decide +kernel
theorem dX12_unfilled_42 : decode cX12_unfilled 42 = .ok (.iload_n 3, 1) := by decide +kernel
theorem dX12_unfilled_43 : decode cX12_unfilled 43 = .ok (.iaload, 1) := by decide +kernel
theorem dX12_unfilled_44 : decode cX12_unfilled 44 = .ok (.isub, 1) := by decide +kernel
theorem dX12_unfilled_45 : decode cX12_unfilled 45 = .ok (.goto 4, 3) := by decide +kernel
theorem dX12_unfilled_48 : decode cX12_unfilled 48 = .ok (.iconst 0, 1) := by decide +kernel
theorem dX12_unfilled_49 : decode cX12_unfilled 49 = .ok (.iadd, 1) := by decide +kernel
theorem dX12_unfilled_50 : decode cX12_unfilled 50 = .ok (.istore_n 2, 1) := by decide +kernel
theorem dX12_unfilled_51 : decode cX12_unfilled 51 = .ok (.iinc 3 1, 3) := by decide +kernel
theorem dX12_unfilled_54 : decode cX12_unfilled 54 = .ok (.goto (-47), 3) := by decide +kernel
theorem dX12_unfilled_57 : decode cX12_unfilled 57 = .ok (.iload_n 2, 1) := by decide +kernel
theorem dX12_unfilled_58 : decode cX12_unfilled 58 = .ok (.ireturn, 1) := by decide +kernel
theorem dX12_come_0 : decode cX12_come 0 = .ok (.aload_n 0, 1) := by decide +kernel
theorem dX12_come_1 : decode cX12_come 1 = .ok (.getfield 171, 3) := by decide +kernel
theorem dX12_come_4 : decode cX12_come 4 = .ok (.aload_n 0, 1) := by decide +kernel
theorem dX12_come_5 : decode cX12_come 5 = .ok (.getfield 246, 3) := by decide +kernel
theorem dX12_come_8 : decode cX12_come 8 = .ok (.iload_n 1, 1) := by decide +kernel
theorem dX12_come_9 : decode cX12_come 9 = .ok (.iastore, 1) := by decide +kernel
theorem dX12_come_10 : decode cX12_come 10 = .ok (.aload_n 0, 1) := by decide +kernel
theorem dX12_come_11 : decode cX12_come 11 = .ok (.getfield 174, 3) := by decide +kernel
theorem dX12_come_14 : decode cX12_come 14 = .ok (.aload_n 0, 1) := by decide +kernel
theorem dX12_come_15 : decode cX12_come 15 = .ok (.getfield 246, 3) := by decide +kernel
theorem dX12_come_18 : decode cX12_come 18 = .ok (.aload_n 0, 1) := by decide +kernel
theorem dX12_come_19 : decode cX12_come 19 = .ok (.getfield 230, 3) := by decide +kernel
theorem dX12_come_22 : decode cX12_come 22 = .ok (.iastore, 1) := by decide +kernel
theorem dX12_come_23 : decode cX12_come 23 = .ok (.aload_n 0, 1) := by decide +kernel
theorem dX12_come_24 : decode cX12_come 24 = .ok (.getfield 177, 3) := by decide +kernel
theorem dX12_come_27 : decode cX12_come 27 = .ok (.aload_n 0, 1) := by decide +kernel
theorem dX12_come_28 : decode cX12_come 28 = .ok (.getfield 246, 3) := by decide +kernel
theorem dX12_come_31 : decode cX12_come 31 = .ok (.iload_n 2, 1) := by decide +kernel
theorem dX12_come_32 : decode cX12_come 32 = .ok (.iastore, 1) := by decide +kernel
theorem dX12_come_33 : decode cX12_come 33 = .ok (.aload_n 0, 1) := by decide +kernel
theorem dX12_come_34 : decode cX12_come 34 = .ok (.getfield 180, 3) := by decide +kernel
theorem dX12_come_37 : decode cX12_come 37 = .ok (.aload_n 0, 1) := by decide +kernel
theorem dX12_come_38 : decode cX12_come 38 = .ok (.getfield 246, 3) := by decide +kernel
theorem dX12_come_41 : decode cX12_come 41 = .ok (.iconst 0, 1) := by decide +kernel
theorem dX12_come_42 : decode cX12_come 42 = .ok (.bastore, 1) := by decide +kernel
theorem dX12_come_43 : decode cX12_come 43 = .ok (.aload_n 0, 1) := by decide +kernel
theorem dX12_come_44 : decode cX12_come 44 = .ok (.dup, 1) := by decide +kernel
theorem dX12_come_45 : decode cX12_come 45 = .ok (.getfield 246, 3) := by decide +kernel
theorem dX12_come_48 : decode cX12_come 48 = .ok (.iconst 1, 1) := by decide +kernel
theorem dX12_come_49 : decode cX12_come 49 = .ok (.iadd, 1) := by decide +kernel
theorem dX12_come_50 : decode cX12_come 50 = .ok (.putfield 246, 3) := by decide +kernel
theorem dX12_come_53 : decode cX12_come 53 = .ok (.aload_n 0, 1) := by decide +kernel
theorem dX12_come_54 : decode cX12_come 54 = .ok (.getfield 126, 3) := by decide +kernel
theorem dX12_come_57 : decode cX12_come 57 = .ok (.iload_n 1, 1) := by decide +kernel
theorem dX12_come_58 : decode cX12_come 58 = .ok (.dup2, 1) := by decide +kernel
theorem dX12_come_59 : decode cX12_come 59 = .ok (.iaload, 1) := by decide +kernel
theorem dX12_come_60 : decode cX12_come 60 = .ok (.iload_n 2, 1) := by decide +kernel
theorem dX12_come_61 : decode cX12_come 61 = .ok (.iadd, 1) := by decide +kernel
theorem dX12_come_62 : decode cX12_come 62 = .ok (.iastore, 1) := by decide +kernel
theorem dX12_come_63 : decode cX12_come 63 = .ok (.aload_n 0, 1) := by decide +kernel
theorem dX12_come_64 : decode cX12_come 64 = .ok (.getfield 230, 3) := by decide +kernel
theorem dX12_come_67 : decode cX12_come 67 = .ok (.aload_n 0, 1) := by decide +kernel
theorem dX12_come_68 : decode cX12_come 68 = .ok (.getfield 114, 3) := by decide +kernel
theorem dX12_come_71 : decode cX12_come 71 = .ok (.iconst 2, 1) := by decide +kernel
theorem dX12_come_72 : decode cX12_come 72 = .ok (.iaload, 1) := by decide +kernel
theorem dX12_come_73 : decode cX12_come 73 = .ok (.if_icmp .le 7, 3) := by decide +kernel
theorem dX12_come_76 : decode cX12_come 76 = .ok (.iconst 0, 1) := by decide +kernel
theorem dX12_come_77 : decode cX12_come 77 = .ok (.goto 18, 3) := by decide +kernel
theorem dX12_come_80 : decode cX12_come 80 = .ok (.aload_n 0, 1) := by decide +kernel
theorem dX12_come_81 : decode cX12_come 81 = .ok (.getfield 114, 3) := by decide +kernel
theorem dX12_come_84 : decode cX12_come 84 = .ok (.iconst 0, 1) := by decide +kernel
theorem dX12_come_85 : decode cX12_come 85 = .ok (.iaload, 1) := by decide +kernel
theorem dX12_come_86 : decode cX12_come 86 = .ok (.i2l, 1) := by decide +kernel
theorem dX12_come_87 : decode cX12_come 87 = .ok (.iload_n 2, 1) := by decide +kernel
theorem dX12_come_88 : decode cX12_come 88 = .ok (.i2l, 1) := by decide +kernel
theorem dX12_come_89 : decode cX12_come 89 = .ok (.lmul, 1) := by decide +kernel
theorem dX12_come_90 : decode cX12_come 90 = .ok (.ldc2_w 249, 3) := by decide +kernel
theorem dX12_come_93 : decode cX12_come 93 = .ok (.ldiv, 1) := by decide +kernel
theorem dX12_come_94 : decode cX12_come 94 = .ok (.l2i, 1) := by decide +kernel
theorem dX12_come_95 : decode cX12_come 95 = .ok (.istore_n 3, 1) := by decide +kernel
theorem dX12_come_96 : decode cX12_come 96 = .ok (.iconst 0, 1) := by decide +kernel
theorem dX12_come_97 : decode cX12_come 97 = .ok (.iload_n 3, 1) := by decide +kernel
theorem dX12_come_98 : decode cX12_come 98 = .ok (.bipush 100, 2) := by decide +kernel
theorem dX12_come_100 : decode cX12_come 100 = .ok (.aload_n 0, 1) := by decide +kernel
theorem dX12_come_101 : decode cX12_come 101 = .ok (.getfield 114, 3) := by decide +kernel
theorem dX12_come_104 : decode cX12_come 104 = .ok (.iconst 1, 1) := by decide +kernel
theorem dX12_come_105 : decode cX12_come 105 = .ok (.iaload, 1) := by decide +kernel
theorem dX12_come_106 : decode cX12_come 106 = .ok (.imul, 1) := by decide +kernel
theorem dX12_come_107 : decode cX12_come 107 = .ok (.aload_n 0, 1) := by decide +kernel
theorem dX12_come_108 : decode cX12_come 108 = .ok (.getfield 251, 3) := by decide +kernel
theorem dX12_come_111 : decode cX12_come 111 = .ok (.isub, 1) := by decide +kernel
theorem dX12_come_112 : decode cX12_come 112 = .ok (.invokestatic 254, 3) := by decide +kernel
theorem dX12_come_115 : decode cX12_come 115 = .ok (.invokestatic 259, 3) := by decide +kernel
theorem dX12_come_118 : decode cX12_come 118 = .ok (.istore_n 3, 1) := by decide +kernel
theorem dX12_come_119 : decode cX12_come 119 = .ok (.aload_n 0, 1) := by decide +kernel
theorem dX12_come_120 : decode cX12_come 120 = .ok (.dup, 1) := by decide +kernel
theorem dX12_come_121 : decode cX12_come 121 = .ok (.getfield 251, 3) := by decide +kernel
theorem dX12_come_124 : decode cX12_come 124 = .ok (.iload_n 3, 1) := by decide +kernel
theorem dX12_come_125 : decode cX12_come 125 = .ok (.iadd, 1) := by decide +kernel
theorem dX12_come_126 : decode cX12_come 126 = .ok (.putfield 251, 3) := by decide +kernel
theorem dX12_come_129 : decode cX12_come 129 = .ok (.aload_n 0, 1) := by decide +kernel
theorem dX12_come_130 : decode cX12_come 130 = .ok (.dup, 1) := by decide +kernel
theorem dX12_come_131 : decode cX12_come 131 = .ok (.getfield 262, 3) := by decide +kernel
theorem dX12_come_134 : decode cX12_come 134 = .ok (.iload_n 2, 1) := by decide +kernel
theorem dX12_come_135 : decode cX12_come 135 = .ok (.iload_n 3, 1) := by decide +kernel
theorem dX12_come_136 : decode cX12_come 136 = .ok (.iadd, 1) := by decide +kernel
theorem dX12_come_137 : decode cX12_come 137 = .ok (.iadd, 1) := by decide +kernel
theorem dX12_come_138 : decode cX12_come 138 = .ok (.putfield 262, 3) := by decide +kernel
theorem dX12_come_141 : decode cX12_come 141 = .ok (.iload_n 3, 1) := by decide +kernel
theorem dX12_come_142 : decode cX12_come 142 = .ok (.ireturn, 1) := by decide +kernel
theorem dX12_pay_0 : decode cX12_pay 0 = .ok (.aload_n 0, 1) := by decide +kernel
theorem dX12_pay_1 : decode cX12_pay 1 = .ok (.iload_n 1, 1) := by decide +kernel
theorem dX12_pay_2 : decode cX12_pay 2 = .ok (.invokevirtual 243, 3) := by decide +kernel
theorem dX12_pay_5 : decode cX12_pay 5 = .ok (.ifCond .eq 15, 3) := by decide +kernel
theorem dX12_pay_8 : decode cX12_pay 8 = .ok (.iload_n 2, 1) := by decide +kernel
theorem dX12_pay_9 : decode cX12_pay 9 = .ok (.i2l, 1) := by decide +kernel
theorem dX12_pay_10 : decode cX12_pay 10 = .ok (.lconst 1, 1) := by decide +kernel
theorem dX12_pay_11 : decode cX12_pay 11 = .ok (.ldc2_w 265, 3) := by decide +kernel
theorem dX12_pay_14 : decode cX12_pay 14 = .ok (.invokestatic 58, 3) := by decide +kernel
theorem dX12_pay_17 : decode cX12_pay 17 = .ok (.ifCond .ne 6, 3) := by decide +kernel
theorem dX12_pay_20 : decode cX12_pay 20 = .ok (.bipush (-2), 2) := by decide +kernel
theorem dX12_pay_22 : decode cX12_pay 22 = .ok (.ireturn, 1) := by decide +kernel
theorem dX12_pay_23 : decode cX12_pay 23 = .ok (.aload_n 0, 1) := by decide +kernel
theorem dX12_pay_24 : decode cX12_pay 24 = .ok (.getfield 153, 3) := by decide +kernel
theorem dX12_pay_27 : decode cX12_pay 27 = .ok (.iload_n 1, 1) := by decide +kernel
theorem dX12_pay_28 : decode cX12_pay 28 = .ok (.baload, 1) := by decide +kernel
theorem dX12_pay_29 : decode cX12_pay 29 = .ok (.ifCond .eq 6, 3) := by decide +kernel
theorem dX12_pay_32 : decode cX12_pay 32 = .ok (.bipush (-4), 2) := by decide +kernel
theorem dX12_pay_34 : decode cX12_pay 34 = .ok (.ireturn, 1) := by decide +kernel
theorem dX12_pay_35 : decode cX12_pay 35 = .ok (.iload_n 2, 1) := by decide +kernel
theorem dX12_pay_36 : decode cX12_pay 36 = .ok (.aload_n 0, 1) := by decide +kernel
theorem dX12_pay_37 : decode cX12_pay 37 = .ok (.iload_n 1, 1) := by decide +kernel
theorem dX12_pay_38 : decode cX12_pay 38 = .ok (.invokevirtual 267, 3) := by decide +kernel
theorem dX12_pay_41 : decode cX12_pay 41 = .ok (.if_icmp .le 6, 3) := by decide +kernel
theorem dX12_pay_44 : decode cX12_pay 44 = .ok (.bipush (-2), 2) := by decide +kernel
theorem dX12_pay_46 : decode cX12_pay 46 = .ok (.ireturn, 1) := by decide +kernel
theorem dX12_pay_47 : decode cX12_pay 47 = .ok (.aload_n 0, 1) := by decide +kernel
theorem dX12_pay_48 : decode cX12_pay 48 = .ok (.getfield 224, 3) := by decide +kernel
theorem dX12_pay_51 : decode cX12_pay 51 = .ok (.ifCond .eq 6, 3) := by decide +kernel
theorem dX12_pay_54 : decode cX12_pay 54 = .ok (.bipush (-4), 2) := by decide +kernel
theorem dX12_pay_56 : decode cX12_pay 56 = .ok (.ireturn, 1) := by decide +kernel
theorem dX12_pay_57 : decode cX12_pay 57 = .ok (.aload_n 0, 1) := by decide +kernel
theorem dX12_pay_58 : decode cX12_pay 58 = .ok (.getfield 246, 3) := by decide +kernel
theorem dX12_pay_61 : decode cX12_pay 61 = .ok (.sipush 250, 3) := by decide +kernel
theorem dX12_pay_64 : decode cX12_pay 64 = .ok (.if_icmp .ne 6, 3) := by decide +kernel
theorem dX12_pay_67 : decode cX12_pay 67 = .ok (.bipush (-3), 2) := by decide +kernel
theorem dX12_pay_69 : decode cX12_pay 69 = .ok (.ireturn, 1) := by decide +kernel
theorem dX12_pay_70 : decode cX12_pay 70 = .ok (.iload_n 2, 1) := by decide +kernel
theorem dX12_pay_71 : decode cX12_pay 71 = .ok (.istore_n 3, 1) := by decide +kernel
theorem dX12_pay_72 : decode cX12_pay 72 = .ok (.bipush 84, 2) := by decide +kernel
theorem dX12_pay_74 : decode cX12_pay 74 = .ok (.iload_n 1, 1) := by decide +kernel
theorem dX12_pay_75 : decode cX12_pay 75 = .ok (.imul, 1) := by decide +kernel
theorem dX12_pay_76 : decode cX12_pay 76 = .ok (.istore 4, 2) := by decide +kernel
theorem dX12_pay_78 : decode cX12_pay 78 = .ok (.iload 4, 2) := by decide +kernel
theorem dX12_pay_80 : decode cX12_pay 80 = .ok (.bipush 84, 2) := by decide +kernel
theorem dX12_pay_82 : decode cX12_pay 82 = .ok (.iload_n 1, 1) := by decide +kernel
theorem dX12_pay_83 : decode cX12_pay 83 = .ok (.imul, 1) := by decide +kernel
theorem dX12_pay_84 : decode cX12_pay 84 = .ok (.aload_n 0, 1) := by decide +kernel
theorem dX12_pay_85 : decode cX12_pay 85 = .ok (.getfield 147, 3) := by decide +kernel
theorem dX12_pay_88 : decode cX12_pay 88 = .ok (.iload_n 1, 1) := by decide +kernel
theorem dX12_pay_89 : decode cX12_pay 89 = .ok (.iaload, 1) := by decide +kernel
theorem dX12_pay_90 : decode cX12_pay 90 = .ok (.iadd, 1) := by decide +kernel
theorem dX12_pay_91 : decode cX12_pay 91 = .ok (.if_icmp .ge 60, 3) := by decide +kernel
theorem dX12_pay_94 : decode cX12_pay 94 = .ok (.aload_n 0, 1) := by decide +kernel
theorem dX12_pay_95 : decode cX12_pay 95 = .ok (.getfield 165, 3) := by decide +kernel
theorem dX12_pay_98 : decode cX12_pay 98 = .ok (.iload 4, 2) := by decide +kernel
theorem dX12_pay_100 : decode cX12_pay 100 = .ok (.baload, 1) := by decide +kernel
theorem dX12_pay_101 : decode cX12_pay 101 = .ok (.ifCond .ne 6, 3) := by decide +kernel
theorem dX12_pay_104 : decode cX12_pay 104 = .ok (.goto 41, 3) := by decide +kernel
theorem dX12_pay_107 : decode cX12_pay 107 = .ok (.iload_n 3, 1) := by decide +kernel
theorem dX12_pay_108 : decode cX12_pay 108 = .ok (.aload_n 0, 1) := by decide +kernel
theorem dX12_pay_109 : decode cX12_pay 109 = .ok (.getfield 159, 3) := by decide +kernel
theorem dX12_pay_112 : decode cX12_pay 112 = .ok (.iload 4, 2) := by decide +kernel
theorem dX12_pay_114 : decode cX12_pay 114 = .ok (.iaload, 1) := by decide +kernel
theorem dX12_pay_115 : decode cX12_pay 115 = .ok (.aload_n 0, 1) := by decide +kernel
theorem dX12_pay_116 : decode cX12_pay 116 = .ok (.getfield 162, 3) := by decide +kernel
theorem dX12_pay_119 : decode cX12_pay 119 = .ok (.iload 4, 2) := by decide +kernel
theorem dX12_pay_121 : decode cX12_pay 121 = .ok (.iaload, 1) := by decide +kernel
theorem dX12_pay_122 : decode cX12_pay 122 = .ok (.isub, 1) := by decide +kernel
theorem dX12_pay_123 : decode cX12_pay 123 = .ok (.invokestatic 254, 3) := by decide +kernel
theorem dX12_pay_126 : decode cX12_pay 126 = .ok (.istore 5, 2) := by decide +kernel
theorem dX12_pay_128 : decode cX12_pay 128 = .ok (.aload_n 0, 1) := by decide +kernel
theorem dX12_pay_129 : decode cX12_pay 129 = .ok (.getfield 162, 3) := by decide +kernel
theorem dX12_pay_132 : decode cX12_pay 132 = .ok (.iload 4, 2) := by decide +kernel
theorem dX12_pay_134 : decode cX12_pay 134 = .ok (.dup2, 1) := by decide +kernel
theorem dX12_pay_135 : decode cX12_pay 135 = .ok (.iaload, 1) := by decide +kernel
theorem dX12_pay_136 : decode cX12_pay 136 = .ok (.iload 5, 2) := by decide +kernel
theorem dX12_pay_138 : decode cX12_pay 138 = .ok (.iadd, 1) := by decide +kernel
theorem dX12_pay_139 : decode cX12_pay 139 = .ok (.iastore, 1) := by decide +kernel
theorem dX12_pay_140 : decode cX12_pay 140 = .ok (.iload_n 3, 1) := by decide +kernel
theorem dX12_pay_141 : decode cX12_pay 141 = .ok (.iload 5, 2) := by decide +kernel
theorem dX12_pay_143 : decode cX12_pay 143 = .ok (.isub, 1) := by decide +kernel
theorem dX12_pay_144 : decode cX12_pay 144 = .ok (.istore_n 3, 1) := by decide +kernel
theorem dX12_pay_145 : decode cX12_pay 145 = .ok (.iinc 4 1, 3) := by decide +kernel
theorem dX12_pay_148 : decode cX12_pay 148 = .ok (.goto (-70), 3) := by decide +kernel
theorem dX12_pay_151 : decode cX12_pay 151 = .ok (.aload_n 0, 1) := by decide +kernel
theorem dX12_pay_152 : decode cX12_pay 152 = .ok (.aload_n 0, 1) := by decide +kernel
theorem dX12_pay_153 : decode cX12_pay 153 = .ok (.getfield 135, 3) := by decide +kernel
theorem dX12_pay_156 : decode cX12_pay 156 = .ok (.iload_n 1, 1) := by decide +kernel
theorem dX12_pay_157 : decode cX12_pay 157 = .ok (.iaload, 1) := by decide +kernel
theorem dX12_pay_158 : decode cX12_pay 158 = .ok (.iload_n 2, 1) := by decide +kernel
theorem dX12_pay_159 : decode cX12_pay 159 = .ok (.invokevirtual 270, 3) := by decide +kernel
theorem dX12_pay_162 : decode cX12_pay 162 = .ok (.ireturn, 1) := by decide +kernel
theorem dX12_gift_0 : decode cX12_gift 0 = .ok (.iload_n 1, 1) := by decide +kernel
theorem dX12_gift_1 : decode cX12_gift 1 = .ok (.invokestatic 218, 3) := by decide +kernel
theorem dX12_gift_4 : decode cX12_gift 4 = .ok (.ifCond .eq 15, 3) := by decide +kernel
theorem dX12_gift_7 : decode cX12_gift 7 = .ok (.iload_n 2, 1) := by decide +kernel
theorem dX12_gift_8 : decode cX12_gift 8 = .ok (.i2l, 1) := by decide +kernel
theorem dX12_gift_9 : decode cX12_gift 9 = .ok (.lconst 1, 1) := by decide +kernel
theorem dX12_gift_10 : decode cX12_gift 10 = .ok (.ldc2_w 265, 3) := by decide +kernel
theorem dX12_gift_13 : decode cX12_gift 13 = .ok (.invokestatic 58, 3) := by decide +kernel
theorem dX12_gift_16 : decode cX12_gift 16 = .ok (.ifCond .ne 6, 3) := by decide +kernel
theorem dX12_gift_19 : decode cX12_gift 19 = .ok (.bipush (-2), 2) := by decide +kernel
theorem dX12_gift_21 : decode cX12_gift 21 = .ok (.ireturn, 1) := by decide +kernel
theorem dX12_gift_22 : decode cX12_gift 22 = .ok (.aload_n 0, 1) := by decide +kernel
theorem dX12_gift_23 : decode cX12_gift 23 = .ok (.getfield 224, 3) := by decide +kernel
theorem dX12_gift_26 : decode cX12_gift 26 = .ok (.ifCond .eq 6, 3) := by decide +kernel
theorem dX12_gift_29 : decode cX12_gift 29 = .ok (.bipush (-4), 2) := by decide +kernel
theorem dX12_gift_31 : decode cX12_gift 31 = .ok (.ireturn, 1) := by decide +kernel
theorem dX12_gift_32 : decode cX12_gift 32 = .ok (.aload_n 0, 1) := by decide +kernel
theorem dX12_gift_33 : decode cX12_gift 33 = .ok (.getfield 246, 3) := by decide +kernel
theorem dX12_gift_36 : decode cX12_gift 36 = .ok (.sipush 250, 3) := by decide +kernel
theorem dX12_gift_39 : decode cX12_gift 39 = .ok (.if_icmp .ne 8, 3) := by decide +kernel
theorem dX12_gift_42 : decode cX12_gift 42 = .ok (.bipush (-3), 2) := by decide +kernel
theorem dX12_gift_44 : decode cX12_gift 44 = .ok (.goto 9, 3) := by decide +kernel
theorem dX12_gift_47 : decode cX12_gift 47 = .ok (.aload_n 0, 1) := by decide +kernel
theorem dX12_gift_48 : decode cX12_gift 48 = .ok (.iload_n 1, 1) := by decide +kernel
theorem dX12_gift_49 : decode cX12_gift 49 = .ok (.iload_n 2, 1) := by decide +kernel
theorem dX12_gift_50 : decode cX12_gift 50 = .ok (.invokevirtual 270, 3) := by decide +kernel
theorem dX12_gift_53 : decode cX12_gift 53 = .ok (.ireturn, 1) := by decide +kernel
theorem dX12_toCome_0 : decode cX12_toCome 0 = .ok (.iconst 0, 1) := by decide +kernel
theorem dX12_toCome_1 : decode cX12_toCome 1 = .ok (.istore_n 2, 1) := by decide +kernel
theorem dX12_toCome_2 : decode cX12_toCome 2 = .ok (.iconst 0, 1) := by decide +kernel
theorem dX12_toCome_3 : decode cX12_toCome 3 = .ok (.istore_n 3, 1) := by decide +kernel
theorem dX12_toCome_4 : decode cX12_toCome 4 = .ok (.iload_n 3, 1) := by decide +kernel
theorem dX12_toCome_5 : decode cX12_toCome 5 = .ok (.aload_n 0, 1) := by decide +kernel
theorem dX12_toCome_6 : decode cX12_toCome 6 = .ok (.getfield 147, 3) := by decide +kernel
theorem dX12_toCome_9 : decode cX12_toCome 9 = .ok (.iload_n 1, 1) := by decide +kernel
theorem dX12_toCome_10 : decode cX12_toCome 10 = .ok (.iaload, 1) := by decide +kernel
theorem dX12_toCome_11 : decode cX12_toCome 11 = .ok (.if_icmp .ge 44, 3) := by decide +kernel
theorem dX12_toCome_14 : decode cX12_toCome 14 = .ok (.iload_n 2, 1) := by decide +kernel
theorem dX12_toCome_15 : decode cX12_toCome 15 = .ok (.aload_n 0, 1) := by decide +kernel
theorem dX12_toCome_16 : decode cX12_toCome 16 = .ok (.getfield 165, 3) := by decide +kernel
theorem dX12_toCome_19 : decode cX12_toCome 19 = .ok (.bipush 84, 2) := by decide +kernel
theorem dX12_toCome_21 : decode cX12_toCome 21 = .ok (.iload_n 1, 1) := by decide +kernel
theorem dX12_toCome_22 : decode cX12_toCome 22 = .ok (.imul, 1) := by decide +kernel
theorem dX12_toCome_23 : decode cX12_toCome 23 = .ok (.iload_n 3, 1) := by decide +kernel
theorem dX12_toCome_24 : decode cX12_toCome 24 = .ok (.iadd, 1) := by decide +kernel
theorem dX12_toCome_25 : decode cX12_toCome 25 = .ok (.baload, 1) := by decide +kernel
theorem dX12_toCome_26 : decode cX12_toCome 26 = .ok (.ifCond .eq 20, 3) := by decide +kernel
theorem dX12_toCome_29 : decode cX12_toCome 29 = .ok (.aload_n 0, 1) := by decide +kernel
theorem dX12_toCome_30 : decode cX12_toCome 30 = .ok (.iload_n 1, 1) := by decide +kernel
theorem dX12_toCome_31 : decode cX12_toCome 31 = .ok (.iload_n 3, 1) := by decide +kernel
theorem dX12_toCome_32 : decode cX12_toCome 32 = .ok (.invokevirtual 240, 3) := by decide +kernel
theorem dX12_toCome_35 : decode cX12_toCome 35 = .ok (.aload_n 0, 1) := by decide +kernel
theorem dX12_toCome_36 : decode cX12_toCome 36 = .ok (.getfield 230, 3) := by decide +kernel
theorem dX12_toCome_39 : decode cX12_toCome 39 = .ok (.if_icmp .le 7, 3) := by decide +kernel
theorem dX12_toCome_42 : decode cX12_toCome 42 = .ok (.iconst 1, 1) := by decide +kernel
theorem dX12_toCome_43 : decode cX12_toCome 43 = .ok (.goto 4, 3) := by decide +kernel
theorem dX12_toCome_46 : decode cX12_toCome 46 = .ok (.iconst 0, 1) := by decide +kernel
theorem dX12_toCome_47 : decode cX12_toCome 47 = .ok (.iadd, 1) := by decide +kernel
theorem dX12_toCome_48 : decode cX12_toCome 48 = .ok (.istore_n 2, 1) := by decide +kernel
theorem dX12_toCome_49 : decode cX12_toCome 49 = .ok (.iinc 3 1, 3) := by decide +kernel
theorem dX12_toCome_52 : decode cX12_toCome 52 = .ok (.goto (-48), 3) := by decide +kernel
theorem dX12_toCome_55 : decode cX12_toCome 55 = .ok (.iload_n 2, 1) := by decide +kernel
theorem dX12_toCome_56 : decode cX12_toCome 56 = .ok (.ireturn, 1) := by decide +kernel
theorem dX12_takeUp_0 : decode cX12_takeUp 0 = .ok (.aload_n 0, 1) := by decide +kernel
theorem dX12_takeUp_1 : decode cX12_takeUp 1 = .ok (.iload_n 1, 1) := by decide +kernel
theorem dX12_takeUp_2 : decode cX12_takeUp 2 = .ok (.invokevirtual 243, 3) := by decide +kernel
theorem dX12_takeUp_5 : decode cX12_takeUp 5 = .ok (.ifCond .ne 6, 3) := by decide +kernel
theorem dX12_takeUp_8 : decode cX12_takeUp 8 = .ok (.bipush (-2), 2) := by decide +kernel
theorem dX12_takeUp_10 : decode cX12_takeUp 10 = .ok (.ireturn, 1) := by decide +kernel
theorem dX12_takeUp_11 : decode cX12_takeUp 11 = .ok (.aload_n 0, 1) := by decide +kernel
theorem dX12_takeUp_12 : decode cX12_takeUp 12 = .ok (.getfield 224, 3) := by decide +kernel
theorem dX12_takeUp_15 : decode cX12_takeUp 15 = .ok (.ifCond .ne 21, 3) := by decide +kernel
theorem dX12_takeUp_18 : decode cX12_takeUp 18 = .ok (.aload_n 0, 1) := by decide +kernel
theorem dX12_takeUp_19 : decode cX12_takeUp 19 = .ok (.getfield 153, 3) := by decide +kernel
theorem dX12_takeUp_22 : decode cX12_takeUp 22 = .ok (.iload_n 1, 1) := by decide +kernel
theorem dX12_takeUp_23 : decode cX12_takeUp 23 = .ok (.baload, 1) := by decide +kernel
theorem dX12_takeUp_24 : decode cX12_takeUp 24 = .ok (.ifCond .eq 12, 3) := by decide +kernel
theorem dX12_takeUp_27 : decode cX12_takeUp 27 = .ok (.aload_n 0, 1) := by decide +kernel
theorem dX12_takeUp_28 : decode cX12_takeUp 28 = .ok (.getfield 156, 3) := by decide +kernel
theorem dX12_takeUp_31 : decode cX12_takeUp 31 = .ok (.iload_n 1, 1) := by decide +kernel
theorem dX12_takeUp_32 : decode cX12_takeUp 32 = .ok (.baload, 1) := by decide +kernel
theorem dX12_takeUp_33 : decode cX12_takeUp 33 = .ok (.ifCond .eq 6, 3) := by decide +kernel
theorem dX12_takeUp_36 : decode cX12_takeUp 36 = .ok (.bipush (-4), 2) := by decide +kernel
theorem dX12_takeUp_38 : decode cX12_takeUp 38 = .ok (.ireturn, 1) := by decide +kernel
theorem dX12_takeUp_39 : decode cX12_takeUp 39 = .ok (.aload_n 0, 1) := by decide +kernel
theorem dX12_takeUp_40 : decode cX12_takeUp 40 = .ok (.getfield 153, 3) := by decide +kernel
theorem dX12_takeUp_43 : decode cX12_takeUp 43 = .ok (.iload_n 1, 1) := by decide +kernel
theorem dX12_takeUp_44 : decode cX12_takeUp 44 = .ok (.iconst 0, 1) := by decide +kernel
theorem dX12_takeUp_45 : decode cX12_takeUp 45 = .ok (.bastore, 1) := by decide +kernel
theorem dX12_takeUp_46 : decode cX12_takeUp 46 = .ok (.aload_n 0, 1) := by decide +kernel
theorem dX12_takeUp_47 : decode cX12_takeUp 47 = .ok (.getfield 156, 3) := by decide +kernel
theorem dX12_takeUp_50 : decode cX12_takeUp 50 = .ok (.iload_n 1, 1) := by decide +kernel
theorem dX12_takeUp_51 : decode cX12_takeUp 51 = .ok (.iconst 1, 1) := by decide +kernel
theorem dX12_takeUp_52 : decode cX12_takeUp 52 = .ok (.bastore, 1) := by decide +kernel
theorem dX12_takeUp_53 : decode cX12_takeUp 53 = .ok (.iconst 0, 1) := by decide +kernel
theorem dX12_takeUp_54 : decode cX12_takeUp 54 = .ok (.istore_n 2, 1) := by decide +kernel
theorem dX12_takeUp_55 : decode cX12_takeUp 55 = .ok (.iload_n 2, 1) := by decide +kernel
theorem dX12_takeUp_56 : decode cX12_takeUp 56 = .ok (.aload_n 0, 1) := by decide +kernel
theorem dX12_takeUp_57 : decode cX12_takeUp 57 = .ok (.getfield 147, 3) := by decide +kernel
theorem dX12_takeUp_60 : decode cX12_takeUp 60 = .ok (.iload_n 1, 1) := by decide +kernel
theorem dX12_takeUp_61 : decode cX12_takeUp 61 = .ok (.iaload, 1) := by decide +kernel
theorem dX12_takeUp_62 : decode cX12_takeUp 62 = .ok (.if_icmp .ge 59, 3) := by decide +kernel
theorem dX12_takeUp_65 : decode cX12_takeUp 65 = .ok (.aload_n 0, 1) := by decide +kernel
theorem dX12_takeUp_66 : decode cX12_takeUp 66 = .ok (.iload_n 1, 1) := by decide +kernel
theorem dX12_takeUp_67 : decode cX12_takeUp 67 = .ok (.iload_n 2, 1) := by decide +kernel
theorem dX12_takeUp_68 : decode cX12_takeUp 68 = .ok (.invokevirtual 240, 3) := by decide +kernel
theorem dX12_takeUp_71 : decode cX12_takeUp 71 = .ok (.i2l, 1) := by decide +kernel
theorem dX12_takeUp_72 : decode cX12_takeUp 72 = .ok (.aload_n 0, 1) := by decide +kernel
theorem dX12_takeUp_73 : decode cX12_takeUp 73 = .ok (.getfield 230, 3) := by decide +kernel
theorem dX12_takeUp_76 : decode cX12_takeUp 76 = .ok (.i2l, 1) := by decide +kernel
theorem dX12_takeUp_77 : decode cX12_takeUp 77 = .ok (.lconst 1, 1) := by decide +kernel
theorem dX12_takeUp_78 : decode cX12_takeUp 78 = .ok (.ladd, 1) := by decide +kernel
theorem dX12_takeUp_79 : decode cX12_takeUp 79 = .ok (.ldc2_w 216, 3) := by decide +kernel
theorem dX12_takeUp_82 : decode cX12_takeUp 82 = .ok (.invokestatic 58, 3) := by decide +kernel
theorem dX12_takeUp_85 : decode cX12_takeUp 85 = .ok (.ifCond .ne 6, 3) := by decide +kernel
theorem dX12_takeUp_88 : decode cX12_takeUp 88 = .ok (.goto 27, 3) := by decide +kernel
theorem dX12_takeUp_91 : decode cX12_takeUp 91 = .ok (.aload_n 0, 1) := by decide +kernel
theorem dX12_takeUp_92 : decode cX12_takeUp 92 = .ok (.getfield 165, 3) := by decide +kernel
theorem dX12_takeUp_95 : decode cX12_takeUp 95 = .ok (.bipush 84, 2) := by decide +kernel
theorem dX12_takeUp_97 : decode cX12_takeUp 97 = .ok (.iload_n 1, 1) := by decide +kernel
theorem dX12_takeUp_98 : decode cX12_takeUp 98 = .ok (.imul, 1) := by decide +kernel
theorem dX12_takeUp_99 : decode cX12_takeUp 99 = .ok (.iload_n 2, 1) := by decide +kernel
theorem dX12_takeUp_100 : decode cX12_takeUp 100 = .ok (.iadd, 1) := by decide +kernel
theorem dX12_takeUp_101 : decode cX12_takeUp 101 = .ok (.iconst 1, 1) := by decide +kernel
theorem dX12_takeUp_102 : decode cX12_takeUp 102 = .ok (.bastore, 1) := by decide +kernel
theorem dX12_takeUp_103 : decode cX12_takeUp 103 = .ok (.aload_n 0, 1) := by decide +kernel
theorem dX12_takeUp_104 : decode cX12_takeUp 104 = .ok (.getfield 168, 3) := by decide +kernel
theorem dX12_takeUp_107 : decode cX12_takeUp 107 = .ok (.bipush 84, 2) := by decide +kernel
theorem dX12_takeUp_109 : decode cX12_takeUp 109 = .ok (.iload_n 1, 1) := by decide +kernel
theorem dX12_takeUp_110 : decode cX12_takeUp 110 = .ok (.imul, 1) := by decide +kernel
theorem dX12_takeUp_111 : decode cX12_takeUp 111 = .ok (.iload_n 2, 1) := by decide +kernel
theorem dX12_takeUp_112 : decode cX12_takeUp 112 = .ok (.iadd, 1) := by decide +kernel
theorem dX12_takeUp_113 : decode cX12_takeUp 113 = .ok (.iconst 1, 1) := by decide +kernel
theorem dX12_takeUp_114 : decode cX12_takeUp 114 = .ok (.bastore, 1) := by decide +kernel
theorem dX12_takeUp_115 : decode cX12_takeUp 115 = .ok (.iinc 2 1, 3) := by decide +kernel
theorem dX12_takeUp_118 : decode cX12_takeUp 118 = .ok (.goto (-63), 3) := by decide +kernel
theorem dX12_takeUp_121 : decode cX12_takeUp 121 = .ok (.aload_n 0, 1) := by decide +kernel
theorem dX12_takeUp_122 : decode cX12_takeUp 122 = .ok (.iload_n 1, 1) := by decide +kernel
theorem dX12_takeUp_123 : decode cX12_takeUp 123 = .ok (.invokevirtual 273, 3) := by decide +kernel
theorem dX12_takeUp_126 : decode cX12_takeUp 126 = .ok (.ireturn, 1) := by decide +kernel
theorem dX12_claim_0 : decode cX12_claim 0 = .ok (.aload_n 0, 1) := by decide +kernel
theorem dX12_claim_1 : decode cX12_claim 1 = .ok (.getfield 224, 3) := by decide +kernel
theorem dX12_claim_4 : decode cX12_claim 4 = .ok (.ifCond .eq 6, 3) := by decide +kernel
theorem dX12_claim_7 : decode cX12_claim 7 = .ok (.bipush (-4), 2) := by decide +kernel
theorem dX12_claim_9 : decode cX12_claim 9 = .ok (.ireturn, 1) := by decide +kernel
theorem dX12_claim_10 : decode cX12_claim 10 = .ok (.iconst 0, 1) := by decide +kernel
theorem dX12_claim_11 : decode cX12_claim 11 = .ok (.istore_n 1, 1) := by decide +kernel
theorem dX12_claim_12 : decode cX12_claim 12 = .ok (.iconst 0, 1) := by decide +kernel
theorem dX12_claim_13 : decode cX12_claim 13 = .ok (.istore_n 2, 1) := by decide +kernel
theorem dX12_claim_14 : decode cX12_claim 14 = .ok (.iload_n 2, 1) := by decide +kernel
theorem dX12_claim_15 : decode cX12_claim 15 = .ok (.aload_n 0, 1) := by decide +kernel
theorem dX12_claim_16 : decode cX12_claim 16 = .ok (.getfield 246, 3) := by decide +kernel
theorem dX12_claim_19 : decode cX12_claim 19 = .ok (.if_icmp .ge 104, 3) := by decide +kernel
theorem dX12_claim_22 : decode cX12_claim 22 = .ok (.aload_n 0, 1) := by decide +kernel
theorem dX12_claim_23 : decode cX12_claim 23 = .ok (.getfield 114, 3) := by decide +kernel
theorem dX12_claim_26 : decode cX12_claim 26 = .ok (.iconst 3, 1) := by decide +kernel
theorem dX12_claim_27 : decode cX12_claim 27 = .ok (.iaload, 1) := by decide +kernel
theorem dX12_claim_28 : decode cX12_claim 28 = .ok (.ifCond .le 95, 3) := by decide +kernel
theorem dX12_claim_31 : decode cX12_claim 31 = .ok (.aload_n 0, 1) := by decide +kernel
theorem dX12_claim_32 : decode cX12_claim 32 = .ok (.getfield 171, 3) := by decide +kernel
theorem dX12_claim_35 : decode cX12_claim 35 = .ok (.iload_n 2, 1) := by decide +kernel
theorem dX12_claim_36 : decode cX12_claim 36 = .ok (.iaload, 1) := by decide +kernel
theorem dX12_claim_37 : decode cX12_claim 37 = .ok (.istore_n 3, 1) := by decide +kernel
theorem dX12_claim_38 : decode cX12_claim 38 = .ok (.aload_n 0, 1) := by decide +kernel
theorem dX12_claim_39 : decode cX12_claim 39 = .ok (.getfield 180, 3) := by decide +kernel
theorem dX12_claim_42 : decode cX12_claim 42 = .ok (.iload_n 2, 1) := by decide +kernel
theorem dX12_claim_43 : decode cX12_claim 43 = .ok (.baload, 1) := by decide +kernel
theorem dX12_claim_44 : decode cX12_claim 44 = .ok (.ifCond .ne 73, 3) := by decide +kernel
theorem dX12_claim_47 : decode cX12_claim 47 = .ok (.aload_n 0, 1) := by decide +kernel
theorem dX12_claim_48 : decode cX12_claim 48 = .ok (.getfield 120, 3) := by decide +kernel
theorem dX12_claim_51 : decode cX12_claim 51 = .ok (.iload_n 3, 1) := by decide +kernel
theorem dX12_claim_52 : decode cX12_claim 52 = .ok (.iaload, 1) := by decide +kernel
theorem dX12_claim_53 : decode cX12_claim 53 = .ok (.iconst (-1), 1) := by decide +kernel
theorem dX12_claim_54 : decode cX12_claim 54 = .ok (.if_icmp .eq 63, 3) := by decide +kernel
theorem dX12_claim_57 : decode cX12_claim 57 = .ok (.aload_n 0, 1) := by decide +kernel
theorem dX12_claim_58 : decode cX12_claim 58 = .ok (.getfield 174, 3) := by decide +kernel
theorem dX12_claim_61 : decode cX12_claim 61 = .ok (.iload_n 2, 1) := by decide +kernel
theorem dX12_claim_62 : decode cX12_claim 62 = .ok (.iaload, 1) := by decide +kernel
theorem dX12_claim_63 : decode cX12_claim 63 = .ok (.i2l, 1) := by decide +kernel
theorem dX12_claim_64 : decode cX12_claim 64 = .ok (.aload_n 0, 1) := by decide +kernel
theorem dX12_claim_65 : decode cX12_claim 65 = .ok (.getfield 120, 3) := by decide +kernel
theorem dX12_claim_68 : decode cX12_claim 68 = .ok (.iload_n 3, 1) := by decide +kernel
theorem dX12_claim_69 : decode cX12_claim 69 = .ok (.iaload, 1) := by decide +kernel
theorem dX12_claim_70 : decode cX12_claim 70 = .ok (.i2l, 1) := by decide +kernel
theorem dX12_claim_71 : decode cX12_claim 71 = .ok (.aload_n 0, 1) := by decide +kernel
theorem dX12_claim_72 : decode cX12_claim 72 = .ok (.getfield 123, 3) := by decide +kernel
theorem dX12_claim_75 : decode cX12_claim 75 = .ok (.iload_n 3, 1) := by decide +kernel
theorem dX12_claim_76 : decode cX12_claim 76 = .ok (.iaload, 1) := by decide +kernel
theorem dX12_claim_77 : decode cX12_claim 77 = .ok (.i2l, 1) := by decide +kernel
theorem dX12_claim_78 : decode cX12_claim 78 = .ok (.invokestatic 58, 3) := by decide +kernel
theorem dX12_claim_81 : decode cX12_claim 81 = .ok (.ifCond .ne 6, 3) := by decide +kernel
theorem dX12_claim_84 : decode cX12_claim 84 = .ok (.goto 33, 3) := by decide +kernel
theorem dX12_claim_87 : decode cX12_claim 87 = .ok (.aload_n 0, 1) := by decide +kernel
theorem dX12_claim_88 : decode cX12_claim 88 = .ok (.getfield 180, 3) := by decide +kernel
theorem dX12_claim_91 : decode cX12_claim 91 = .ok (.iload_n 2, 1) := by decide +kernel
theorem dX12_claim_92 : decode cX12_claim 92 = .ok (.iconst 1, 1) := by decide +kernel
theorem dX12_claim_93 : decode cX12_claim 93 = .ok (.bastore, 1) := by decide +kernel
theorem dX12_claim_94 : decode cX12_claim 94 = .ok (.iload_n 1, 1) := by decide +kernel
theorem dX12_claim_95 : decode cX12_claim 95 = .ok (.aload_n 0, 1) := by decide +kernel
theorem dX12_claim_96 : decode cX12_claim 96 = .ok (.getfield 114, 3) := by decide +kernel
theorem dX12_claim_99 : decode cX12_claim 99 = .ok (.iconst 3, 1) := by decide +kernel
theorem dX12_claim_100 : decode cX12_claim 100 = .ok (.iaload, 1) := by decide +kernel
theorem dX12_claim_101 : decode cX12_claim 101 = .ok (.i2l, 1) := by decide +kernel
theorem dX12_claim_102 : decode cX12_claim 102 = .ok (.aload_n 0, 1) := by decide +kernel
theorem dX12_claim_103 : decode cX12_claim 103 = .ok (.getfield 177, 3) := by decide +kernel
theorem dX12_claim_106 : decode cX12_claim 106 = .ok (.iload_n 2, 1) := by decide +kernel
theorem dX12_claim_107 : decode cX12_claim 107 = .ok (.iaload, 1) := by decide +kernel
theorem dX12_claim_108 : decode cX12_claim 108 = .ok (.i2l, 1) := by decide +kernel

