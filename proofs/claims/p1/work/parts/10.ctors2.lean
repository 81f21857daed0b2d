theorem dX4_init_0 : decode cX4_init 0 = .ok (.aload_n 0, 1) := by decide +kernel
theorem dX4_init_1 : decode cX4_init 1 = .ok (.invokespecial 3, 3) := by decide +kernel
theorem dX4_init_4 : decode cX4_init 4 = .ok (.aload_n 0, 1) := by decide +kernel
theorem dX4_init_5 : decode cX4_init 5 = .ok (.aload_n 1, 1) := by decide +kernel
theorem dX4_init_6 : decode cX4_init 6 = .ok (.putfield 9, 3) := by decide +kernel
theorem dX4_init_9 : decode cX4_init 9 = .ok (.aload_n 0, 1) := by decide +kernel
theorem dX4_init_10 : decode cX4_init 10 = .ok (.aload_n 2, 1) := by decide +kernel
theorem dX4_init_11 : decode cX4_init 11 = .ok (.putfield 15, 3) := by decide +kernel
theorem dX4_init_14 : decode cX4_init 14 = .ok (.aload_n 0, 1) := by decide +kernel
theorem dX4_init_15 : decode cX4_init 15 = .ok (.aload_n 3, 1) := by decide +kernel
theorem dX4_init_16 : decode cX4_init 16 = .ok (.putfield 19, 3) := by decide +kernel
theorem dX4_init_19 : decode cX4_init 19 = .ok (.aload_n 0, 1) := by decide +kernel
theorem dX4_init_20 : decode cX4_init 20 = .ok (.aload 4, 2) := by decide +kernel
theorem dX4_init_22 : decode cX4_init 22 = .ok (.putfield 23, 3) := by decide +kernel
theorem dX4_init_25 : decode cX4_init 25 = .ok (.aload_n 0, 1) := by decide +kernel
theorem dX4_init_26 : decode cX4_init 26 = .ok (.aload 5, 2) := by decide +kernel
theorem dX4_init_28 : decode cX4_init 28 = .ok (.putfield 27, 3) := by decide +kernel
theorem dX4_init_31 : decode cX4_init 31 = .ok (.aload_n 0, 1) := by decide +kernel
theorem dX4_init_32 : decode cX4_init 32 = .ok (.bipush 8, 2) := by decide +kernel
theorem dX4_init_34 : decode cX4_init 34 = .ok (.newarray .int, 2) := by decide +kernel
theorem dX4_init_36 : decode cX4_init 36 = .ok (.putfield 31, 3) := by decide +kernel
theorem dX4_init_39 : decode cX4_init 39 = .ok (.aload_n 0, 1) := by decide +kernel
theorem dX4_init_40 : decode cX4_init 40 = .ok (.sipush 2560, 3) := by decide +kernel
theorem dX4_init_43 : decode cX4_init 43 = .ok (.newarray .long, 2) := by decide +kernel
theorem dX4_init_45 : decode cX4_init 45 = .ok (.putfield 35, 3) := by decide +kernel
theorem dX4_init_48 : decode cX4_init 48 = .ok (.aload_n 0, 1) := by decide +kernel
theorem dX4_init_49 : decode cX4_init 49 = .ok (.sipush 2560, 3) := by decide +kernel
theorem dX4_init_52 : decode cX4_init 52 = .ok (.newarray .long, 2) := by decide +kernel
theorem dX4_init_54 : decode cX4_init 54 = .ok (.putfield 39, 3) := by decide +kernel
theorem dX4_init_57 : decode cX4_init 57 = .ok (.aload_n 0, 1) := by decide +kernel
theorem dX4_init_58 : decode cX4_init 58 = .ok (.sipush 640, 3) := by decide +kernel
theorem dX4_init_61 : decode cX4_init 61 = .ok (.newarray .int, 2) := by decide +kernel
theorem dX4_init_63 : decode cX4_init 63 = .ok (.putfield 42, 3) := by decide +kernel
theorem dX4_init_66 : decode cX4_init 66 = .ok (.aload_n 0, 1) := by decide +kernel
theorem dX4_init_67 : decode cX4_init 67 = .ok (.sipush 640, 3) := by decide +kernel
theorem dX4_init_70 : decode cX4_init 70 = .ok (.newarray .int, 2) := by decide +kernel
theorem dX4_init_72 : decode cX4_init 72 = .ok (.putfield 45, 3) := by decide +kernel
theorem dX4_init_75 : decode cX4_init 75 = .ok (.aload_n 0, 1) := by decide +kernel
theorem dX4_init_76 : decode cX4_init 76 = .ok (.iconst 4, 1) := by decide +kernel
theorem dX4_init_77 : decode cX4_init 77 = .ok (.newarray .long, 2) := by decide +kernel
theorem dX4_init_79 : decode cX4_init 79 = .ok (.putfield 48, 3) := by decide +kernel
theorem dX4_init_82 : decode cX4_init 82 = .ok (.aload_n 0, 1) := by decide +kernel
theorem dX4_init_83 : decode cX4_init 83 = .ok (.iconst 4, 1) := by decide +kernel
theorem dX4_init_84 : decode cX4_init 84 = .ok (.newarray .long, 2) := by decide +kernel
theorem dX4_init_86 : decode cX4_init 86 = .ok (.putfield 51, 3) := by decide +kernel
theorem dX4_init_89 : decode cX4_init 89 = .ok (.return_, 1) := by decide +kernel
theorem dX6_init_0 : decode cX6_init 0 = .ok (.aload_n 0, 1) := by decide +kernel
theorem dX6_init_1 : decode cX6_init 1 = .ok (.invokespecial 3, 3) := by decide +kernel
theorem dX6_init_4 : decode cX6_init 4 = .ok (.aload_n 0, 1) := by decide +kernel
theorem dX6_init_5 : decode cX6_init 5 = .ok (.aload_n 1, 1) := by decide +kernel
theorem dX6_init_6 : decode cX6_init 6 = .ok (.putfield 9, 3) := by decide +kernel
theorem dX6_init_9 : decode cX6_init 9 = .ok (.aload_n 0, 1) := by decide +kernel
theorem dX6_init_10 : decode cX6_init 10 = .ok (.aload_n 2, 1) := by decide +kernel
theorem dX6_init_11 : decode cX6_init 11 = .ok (.putfield 15, 3) := by decide +kernel
theorem dX6_init_14 : decode cX6_init 14 = .ok (.aload_n 0, 1) := by decide +kernel
theorem dX6_init_15 : decode cX6_init 15 = .ok (.aload_n 3, 1) := by decide +kernel
theorem dX6_init_16 : decode cX6_init 16 = .ok (.putfield 19, 3) := by decide +kernel
theorem dX6_init_19 : decode cX6_init 19 = .ok (.aload_n 0, 1) := by decide +kernel
theorem dX6_init_20 : decode cX6_init 20 = .ok (.aload 4, 2) := by decide +kernel
theorem dX6_init_22 : decode cX6_init 22 = .ok (.putfield 23, 3) := by decide +kernel
theorem dX6_init_25 : decode cX6_init 25 = .ok (.aload_n 0, 1) := by decide +kernel
theorem dX6_init_26 : decode cX6_init 26 = .ok (.new 27, 3) := by decide +kernel
theorem dX6_init_29 : decode cX6_init 29 = .ok (.dup, 1) := by decide +kernel
theorem dX6_init_30 : decode cX6_init 30 = .ok (.invokespecial 29, 3) := by decide +kernel
theorem dX6_init_33 : decode cX6_init 33 = .ok (.putfield 30, 3) := by decide +kernel
theorem dX6_init_36 : decode cX6_init 36 = .ok (.aload_n 0, 1) := by decide +kernel
theorem dX6_init_37 : decode cX6_init 37 = .ok (.new 27, 3) := by decide +kernel
theorem dX6_init_40 : decode cX6_init 40 = .ok (.dup, 1) := by decide +kernel
theorem dX6_init_41 : decode cX6_init 41 = .ok (.invokespecial 29, 3) := by decide +kernel
theorem dX6_init_44 : decode cX6_init 44 = .ok (.putfield 34, 3) := by decide +kernel
theorem dX6_init_47 : decode cX6_init 47 = .ok (.aload_n 0, 1) := by decide +kernel
theorem dX6_init_48 : decode cX6_init 48 = .ok (.new 27, 3) := by decide +kernel
theorem dX6_init_51 : decode cX6_init 51 = .ok (.dup, 1) := by decide +kernel
theorem dX6_init_52 : decode cX6_init 52 = .ok (.invokespecial 29, 3) := by decide +kernel
theorem dX6_init_55 : decode cX6_init 55 = .ok (.putfield 37, 3) := by decide +kernel
theorem dX6_init_58 : decode cX6_init 58 = .ok (.return_, 1) := by decide +kernel
theorem dX9_init_0 : decode cX9_init 0 = .ok (.aload_n 0, 1) := by decide +kernel
theorem dX9_init_1 : decode cX9_init 1 = .ok (.invokespecial 3, 3) := by decide +kernel
theorem dX9_init_4 : decode cX9_init 4 = .ok (.aload_n 0, 1) := by decide +kernel
theorem dX9_init_5 : decode cX9_init 5 = .ok (.aload_n 1, 1) := by decide +kernel
theorem dX9_init_6 : decode cX9_init 6 = .ok (.putfield 9, 3) := by decide +kernel
theorem dX9_init_9 : decode cX9_init 9 = .ok (.aload_n 0, 1) := by decide +kernel
theorem dX9_init_10 : decode cX9_init 10 = .ok (.aload_n 2, 1) := by decide +kernel
theorem dX9_init_11 : decode cX9_init 11 = .ok (.putfield 15, 3) := by decide +kernel
theorem dX9_init_14 : decode cX9_init 14 = .ok (.aload_n 0, 1) := by decide +kernel
theorem dX9_init_15 : decode cX9_init 15 = .ok (.aload_n 3, 1) := by decide +kernel
theorem dX9_init_16 : decode cX9_init 16 = .ok (.putfield 19, 3) := by decide +kernel
theorem dX9_init_19 : decode cX9_init 19 = .ok (.aload_n 0, 1) := by decide +kernel
theorem dX9_init_20 : decode cX9_init 20 = .ok (.aload 4, 2) := by decide +kernel
theorem dX9_init_22 : decode cX9_init 22 = .ok (.putfield 23, 3) := by decide +kernel
theorem dX9_init_25 : decode cX9_init 25 = .ok (.aload_n 0, 1) := by decide +kernel
theorem dX9_init_26 : decode cX9_init 26 = .ok (.aload 5, 2) := by decide +kernel
theorem dX9_init_28 : decode cX9_init 28 = .ok (.putfield 27, 3) := by decide +kernel
theorem dX9_init_31 : decode cX9_init 31 = .ok (.aload_n 0, 1) := by decide +kernel
theorem dX9_init_32 : decode cX9_init 32 = .ok (.new 31, 3) := by decide +kernel
theorem dX9_init_35 : decode cX9_init 35 = .ok (.dup, 1) := by decide +kernel
theorem dX9_init_36 : decode cX9_init 36 = .ok (.invokespecial 33, 3) := by decide +kernel
theorem dX9_init_39 : decode cX9_init 39 = .ok (.putfield 34, 3) := by decide +kernel
theorem dX9_init_42 : decode cX9_init 42 = .ok (.aload_n 0, 1) := by decide +kernel
theorem dX9_init_43 : decode cX9_init 43 = .ok (.bipush 65, 2) := by decide +kernel
theorem dX9_init_45 : decode cX9_init 45 = .ok (.anewarray 38, 3) := by decide +kernel
theorem dX9_init_48 : decode cX9_init 48 = .ok (.putfield 40, 3) := by decide +kernel
theorem dX9_init_51 : decode cX9_init 51 = .ok (.iconst 0, 1) := by decide +kernel
theorem dX9_init_52 : decode cX9_init 52 = .ok (.istore 6, 2) := by decide +kernel
theorem dX9_init_54 : decode cX9_init 54 = .ok (.iload 6, 2) := by decide +kernel
theorem dX9_init_56 : decode cX9_init 56 = .ok (.bipush 65, 2) := by decide +kernel
theorem dX9_init_58 : decode cX9_init 58 = .ok (.if_icmp .ge 23, 3) := by decide +kernel
theorem dX9_init_61 : decode cX9_init 61 = .ok (.aload_n 0, 1) := by decide +kernel
theorem dX9_init_62 : decode cX9_init 62 = .ok (.getfield 40, 3) := by decide +kernel
theorem dX9_init_65 : decode cX9_init 65 = .ok (.iload 6, 2) := by decide +kernel
theorem dX9_init_67 : decode cX9_init 67 = .ok (.new 38, 3) := by decide +kernel
theorem dX9_init_70 : decode cX9_init 70 = .ok (.dup, 1) := by decide +kernel
theorem dX9_init_71 : decode cX9_init 71 = .ok (.invokespecial 44, 3) := by decide +kernel
theorem dX9_init_74 : decode cX9_init 74 = .ok (.aastore, 1) := by decide +kernel
theorem dX9_init_75 : decode cX9_init 75 = .ok (.iinc 6 1, 3) := by decide +kernel
theorem dX9_init_78 : decode cX9_init 78 = .ok (.goto (-24), 3) := by decide +kernel
theorem dX9_init_81 : decode cX9_init 81 = .ok (.aload_n 0, 1) := by decide +kernel
theorem dX9_init_82 : decode cX9_init 82 = .ok (.new 38, 3) := by decide +kernel
theorem dX9_init_85 : decode cX9_init 85 = .ok (.dup, 1) := by decide +kernel
theorem dX9_init_86 : decode cX9_init 86 = .ok (.invokespecial 44, 3) := by decide +kernel
theorem dX9_init_89 : decode cX9_init 89 = .ok (.putfield 45, 3) := by decide +kernel
theorem dX9_init_92 : decode cX9_init 92 = .ok (.aload_n 0, 1) := by decide +kernel
theorem dX9_init_93 : decode cX9_init 93 = .ok (.bipush 60, 2) := by decide +kernel
theorem dX9_init_95 : decode cX9_init 95 = .ok (.newarray .int, 2) := by decide +kernel
theorem dX9_init_97 : decode cX9_init 97 = .ok (.putfield 49, 3) := by decide +kernel
theorem dX9_init_100 : decode cX9_init 100 = .ok (.aload_n 0, 1) := by decide +kernel
theorem dX9_init_101 : decode cX9_init 101 = .ok (.bipush 60, 2) := by decide +kernel
theorem dX9_init_103 : decode cX9_init 103 = .ok (.newarray .int, 2) := by decide +kernel
theorem dX9_init_105 : decode cX9_init 105 = .ok (.putfield 53, 3) := by decide +kernel
theorem dX9_init_108 : decode cX9_init 108 = .ok (.aload_n 0, 1) := by decide +kernel
theorem dX9_init_109 : decode cX9_init 109 = .ok (.bipush 60, 2) := by decide +kernel
theorem dX9_init_111 : decode cX9_init 111 = .ok (.newarray .int, 2) := by decide +kernel
theorem dX9_init_113 : decode cX9_init 113 = .ok (.putfield 56, 3) := by decide +kernel
theorem dX9_init_116 : decode cX9_init 116 = .ok (.aload_n 0, 1) := by decide +kernel
theorem dX9_init_117 : decode cX9_init 117 = .ok (.bipush 60, 2) := by decide +kernel
theorem dX9_init_119 : decode cX9_init 119 = .ok (.newarray .int, 2) := by decide +kernel
theorem dX9_init_121 : decode cX9_init 121 = .ok (.putfield 59, 3) := by decide +kernel
theorem dX9_init_124 : decode cX9_init 124 = .ok (.aload_n 0, 1) := by decide +kernel
theorem dX9_init_125 : decode cX9_init 125 = .ok (.bipush 60, 2) := by decide +kernel
theorem dX9_init_127 : decode cX9_init 127 = .ok (.newarray .int, 2) := by decide +kernel
theorem dX9_init_129 : decode cX9_init 129 = .ok (.putfield 62, 3) := by decide +kernel
theorem dX9_init_132 : decode cX9_init 132 = .ok (.aload_n 0, 1) := by decide +kernel
theorem dX9_init_133 : decode cX9_init 133 = .ok (.getfield 56, 3) := by decide +kernel
theorem dX9_init_136 : decode cX9_init 136 = .ok (.iconst (-1), 1) := by decide +kernel
theorem dX9_init_137 : decode cX9_init 137 = .ok (.invokestatic 65, 3) := by decide +kernel
theorem dX9_init_140 : decode cX9_init 140 = .ok (.aload_n 0, 1) := by decide +kernel
theorem dX9_init_141 : decode cX9_init 141 = .ok (.getfield 59, 3) := by decide +kernel
theorem dX9_init_144 : decode cX9_init 144 = .ok (.iconst (-1), 1) := by decide +kernel
theorem dX9_init_145 : decode cX9_init 145 = .ok (.invokestatic 65, 3) := by decide +kernel
theorem dX9_init_148 : decode cX9_init 148 = .ok (.aload_n 0, 1) := by decide +kernel
theorem dX9_init_149 : decode cX9_init 149 = .ok (.bipush 10, 2) := by decide +kernel
theorem dX9_init_151 : decode cX9_init 151 = .ok (.bipush 40, 2) := by decide +kernel
theorem dX9_init_153 : decode cX9_init 153 = .ok (.multianewarray 71 2, 4) := by decide +kernel
theorem dX9_init_157 : decode cX9_init 157 = .ok (.putfield 73, 3) := by decide +kernel
theorem dX9_init_160 : decode cX9_init 160 = .ok (.aload_n 0, 1) := by decide +kernel
theorem dX9_init_161 : decode cX9_init 161 = .ok (.bipush 10, 2) := by decide +kernel
theorem dX9_init_163 : decode cX9_init 163 = .ok (.bipush 40, 2) := by decide +kernel
theorem dX9_init_165 : decode cX9_init 165 = .ok (.multianewarray 71 2, 4) := by decide +kernel
theorem dX9_init_169 : decode cX9_init 169 = .ok (.putfield 76, 3) := by decide +kernel
theorem dX9_init_172 : decode cX9_init 172 = .ok (.iconst 0, 1) := by decide +kernel
theorem dX9_init_173 : decode cX9_init 173 = .ok (.istore 6, 2) := by decide +kernel
theorem dX9_init_175 : decode cX9_init 175 = .ok (.iload 6, 2) := by decide +kernel
theorem dX9_init_177 : decode cX9_init 177 = .ok (.bipush 10, 2) := by decide +kernel
theorem dX9_init_179 : decode cX9_init 179 = .ok (.if_icmp .ge 20, 3) := by decide +kernel
theorem dX9_init_182 : decode cX9_init 182 = .ok (.aload_n 0, 1) := by decide +kernel
theorem dX9_init_183 : decode cX9_init 183 = .ok (.getfield 73, 3) := by decide +kernel
theorem dX9_init_186 : decode cX9_init 186 = .ok (.iload 6, 2) := by decide +kernel
theorem dX9_init_188 : decode cX9_init 188 = .ok (.aaload, 1) := by decide +kernel
theorem dX9_init_189 : decode cX9_init 189 = .ok (.iconst (-1), 1) := by decide +kernel
theorem dX9_init_190 : decode cX9_init 190 = .ok (.invokestatic 65, 3) := by decide +kernel
theorem dX9_init_193 : decode cX9_init 193 = .ok (.iinc 6 1, 3) := by decide +kernel
theorem dX9_init_196 : decode cX9_init 196 = .ok (.goto (-21), 3) := by decide +kernel
theorem dX9_init_199 : decode cX9_init 199 = .ok (.return_, 1) := by decide +kernel
theorem u_9 : Cond.initialized RX8 ∈ gU := gm (i := 9) (by decide +kernel) (by decide +kernel)
theorem u_11 : Cond.initialized RX2 ∈ gU := gm (i := 11) (by decide +kernel) (by decide +kernel)
theorem u_12 : Cond.initialized RX1 ∈ gU := gm (i := 12) (by decide +kernel) (by decide +kernel)
theorem u_232 : Cond.methodLink RX6 3 objectInit ∈ gU := gm (i := 232) (by decide +kernel) (by decide +kernel)
theorem u_233 : Cond.classLink RX6 27 RX8 ∈ gU := gm (i := 233) (by decide +kernel) (by decide +kernel)
theorem u_234 : Cond.instantiable RX8 3 ∈ gU := gm (i := 234) (by decide +kernel) (by decide +kernel)
theorem u_235 : Cond.methodLink RX6 29 yX8_init ∈ gU := gm (i := 235) (by decide +kernel) (by decide +kernel)
theorem u_236 : Cond.instanceMethod yX8_init ∈ gU := gm (i := 236) (by decide +kernel) (by decide +kernel)
theorem u_237 : Cond.code yX8_init cX8_init 1 none ∈ gU := gm (i := 237) (by decide +kernel) (by decide +kernel)
theorem u_257 : Cond.fieldLink RX6 9 "DrystoneSimnet$Routing" "wiring" "LDrystoneSimnet$Wiring;" ∈ gU := gm (i := 257) (by decide +kernel) (by decide +kernel)
theorem u_258 : Cond.fieldLink RX6 15 "DrystoneSimnet$Routing" "sight" "LDrystoneSimnet$Sight;" ∈ gU := gm (i := 258) (by decide +kernel) (by decide +kernel)
theorem u_259 : Cond.fieldLink RX6 19 "DrystoneSimnet$Routing" "addresses" "LDrystoneSimnet$Addresses;" ∈ gU := gm (i := 259) (by decide +kernel) (by decide +kernel)
theorem u_260 : Cond.fieldLink RX6 23 "DrystoneSimnet$Routing" "routers" "[LDrystoneSimnet$Router;" ∈ gU := gm (i := 260) (by decide +kernel) (by decide +kernel)
theorem u_261 : Cond.fieldLink RX6 30 "DrystoneSimnet$Routing" "current" "LDrystoneSimnet$Tables;" ∈ gU := gm (i := 261) (by decide +kernel) (by decide +kernel)
theorem u_263 : Cond.fieldLink RX6 34 "DrystoneSimnet$Routing" "settled" "LDrystoneSimnet$Tables;" ∈ gU := gm (i := 263) (by decide +kernel) (by decide +kernel)
theorem u_265 : Cond.fieldLink RX6 37 "DrystoneSimnet$Routing" "spare" "LDrystoneSimnet$Tables;" ∈ gU := gm (i := 265) (by decide +kernel) (by decide +kernel)
theorem u_292 : Cond.methodLink RX9 3 objectInit ∈ gU := gm (i := 292) (by decide +kernel) (by decide +kernel)
theorem u_293 : Cond.classLink RX9 31 RX2 ∈ gU := gm (i := 293) (by decide +kernel) (by decide +kernel)
theorem u_294 : Cond.instantiable RX2 3 ∈ gU := gm (i := 294) (by decide +kernel) (by decide +kernel)
theorem u_295 : Cond.methodLink RX9 33 yX2_init ∈ gU := gm (i := 295) (by decide +kernel) (by decide +kernel)
theorem u_296 : Cond.instanceMethod yX2_init ∈ gU := gm (i := 296) (by decide +kernel) (by decide +kernel)
theorem u_297 : Cond.code yX2_init cX2_init 1 none ∈ gU := gm (i := 297) (by decide +kernel) (by decide +kernel)
theorem u_310 : Cond.classLink RX9 38 RX1 ∈ gU := gm (i := 310) (by decide +kernel) (by decide +kernel)
theorem u_312 : Cond.instantiable RX1 8 ∈ gU := gm (i := 312) (by decide +kernel) (by decide +kernel)
theorem u_314 : Cond.instanceMethod yX1_init ∈ gU := gm (i := 314) (by decide +kernel) (by decide +kernel)
theorem u_315 : Cond.code yX1_init cX1_init 1 none ∈ gU := gm (i := 315) (by decide +kernel) (by decide +kernel)
theorem u_350 : Cond.methodLink RX9 65 yJ7_fill_53178 ∈ gU := gm (i := 350) (by decide +kernel) (by decide +kernel)
theorem u_351 : Cond.classLink RX9 71 "[[I" ∈ gU := gm (i := 351) (by decide +kernel) (by decide +kernel)
theorem u_352 : Cond.fieldLink RX9 9 "DrystoneSimnet$Traffic" "wiring" "LDrystoneSimnet$Wiring;" ∈ gU := gm (i := 352) (by decide +kernel) (by decide +kernel)
theorem u_353 : Cond.fieldLink RX9 15 "DrystoneSimnet$Traffic" "sight" "LDrystoneSimnet$Sight;" ∈ gU := gm (i := 353) (by decide +kernel) (by decide +kernel)
theorem u_354 : Cond.fieldLink RX9 19 "DrystoneSimnet$Traffic" "addresses" "LDrystoneSimnet$Addresses;" ∈ gU := gm (i := 354) (by decide +kernel) (by decide +kernel)
theorem u_355 : Cond.fieldLink RX9 23 "DrystoneSimnet$Traffic" "routers" "[LDrystoneSimnet$Router;" ∈ gU := gm (i := 355) (by decide +kernel) (by decide +kernel)
theorem u_356 : Cond.fieldLink RX9 27 "DrystoneSimnet$Traffic" "routing" "LDrystoneSimnet$Routing;" ∈ gU := gm (i := 356) (by decide +kernel) (by decide +kernel)
theorem u_357 : Cond.fieldLink RX9 34 "DrystoneSimnet$Traffic" "notes" "LDrystoneSimnet$Notes;" ∈ gU := gm (i := 357) (by decide +kernel) (by decide +kernel)
theorem u_360 : Cond.fieldLink RX9 40 "DrystoneSimnet$Traffic" "ring" "[LDrystoneSimnet$Frame;" ∈ gU := gm (i := 360) (by decide +kernel) (by decide +kernel)
theorem u_364 : Cond.fieldLink RX9 45 "DrystoneSimnet$Traffic" "draft" "LDrystoneSimnet$Frame;" ∈ gU := gm (i := 364) (by decide +kernel) (by decide +kernel)
theorem u_367 : Cond.fieldLink RX9 49 "DrystoneSimnet$Traffic" "services" "[I" ∈ gU := gm (i := 367) (by decide +kernel) (by decide +kernel)
theorem u_368 : Cond.fieldLink RX9 53 "DrystoneSimnet$Traffic" "fates" "[I" ∈ gU := gm (i := 368) (by decide +kernel) (by decide +kernel)
theorem u_370 : Cond.fieldLink RX9 56 "DrystoneSimnet$Traffic" "places" "[I" ∈ gU := gm (i := 370) (by decide +kernel) (by decide +kernel)
theorem u_372 : Cond.fieldLink RX9 59 "DrystoneSimnet$Traffic" "sources" "[I" ∈ gU := gm (i := 372) (by decide +kernel) (by decide +kernel)
theorem u_374 : Cond.fieldLink RX9 62 "DrystoneSimnet$Traffic" "framesOf" "[I" ∈ gU := gm (i := 374) (by decide +kernel) (by decide +kernel)
theorem u_375 : Cond.fieldLink RX9 73 "DrystoneSimnet$Traffic" "bridgePorts" "[[I" ∈ gU := gm (i := 375) (by decide +kernel) (by decide +kernel)
theorem u_376 : Cond.fieldLink RX9 76 "DrystoneSimnet$Traffic" "bridgeTicks" "[[I" ∈ gU := gm (i := 376) (by decide +kernel) (by decide +kernel)
theorem u_421 : Cond.methodLink RX4 3 objectInit ∈ gU := gm (i := 421) (by decide +kernel) (by decide +kernel)
theorem u_422 : Cond.fieldLink RX4 9 "DrystoneSimnet$Proofs" "wiring" "LDrystoneSimnet$Wiring;" ∈ gU := gm (i := 422) (by decide +kernel) (by decide +kernel)
theorem u_423 : Cond.fieldLink RX4 15 "DrystoneSimnet$Proofs" "sight" "LDrystoneSimnet$Sight;" ∈ gU := gm (i := 423) (by decide +kernel) (by decide +kernel)
theorem u_424 : Cond.fieldLink RX4 19 "DrystoneSimnet$Proofs" "addresses" "LDrystoneSimnet$Addresses;" ∈ gU := gm (i := 424) (by decide +kernel) (by decide +kernel)
theorem u_425 : Cond.fieldLink RX4 23 "DrystoneSimnet$Proofs" "routers" "[LDrystoneSimnet$Router;" ∈ gU := gm (i := 425) (by decide +kernel) (by decide +kernel)
theorem u_426 : Cond.fieldLink RX4 27 "DrystoneSimnet$Proofs" "routing" "LDrystoneSimnet$Routing;" ∈ gU := gm (i := 426) (by decide +kernel) (by decide +kernel)
theorem u_427 : Cond.fieldLink RX4 31 "DrystoneSimnet$Proofs" "passedRouters" "[I" ∈ gU := gm (i := 427) (by decide +kernel) (by decide +kernel)
theorem u_429 : Cond.fieldLink RX4 35 "DrystoneSimnet$Proofs" "here" "[J" ∈ gU := gm (i := 429) (by decide +kernel) (by decide +kernel)
theorem u_430 : Cond.fieldLink RX4 39 "DrystoneSimnet$Proofs" "coming" "[J" ∈ gU := gm (i := 430) (by decide +kernel) (by decide +kernel)
theorem u_431 : Cond.fieldLink RX4 42 "DrystoneSimnet$Proofs" "hereStates" "[I" ∈ gU := gm (i := 431) (by decide +kernel) (by decide +kernel)
theorem u_432 : Cond.fieldLink RX4 45 "DrystoneSimnet$Proofs" "comingStates" "[I" ∈ gU := gm (i := 432) (by decide +kernel) (by decide +kernel)
theorem u_435 : Cond.fieldLink RX4 48 "DrystoneSimnet$Proofs" "headers" "[J" ∈ gU := gm (i := 435) (by decide +kernel) (by decide +kernel)
theorem u_436 : Cond.fieldLink RX4 51 "DrystoneSimnet$Proofs" "part" "[J" ∈ gU := gm (i := 436) (by decide +kernel) (by decide +kernel)
theorem gX1 : ∀ w ∈ u_ws RX1 TX1 8, w ∈ gU := gIn [333, 335, 337, 339, 341, 343, 345, 347] (by decide +kernel) (by decide +kernel)
theorem gX4 : ∀ w ∈ u_ws RX4 TX4 17, w ∈ gU := gIn [439, 441, 443, 445, 447, 449, 451, 453, 455, 457, 459, 461, 463, 465, 467, 469, 471] (by decide +kernel) (by decide +kernel)
theorem gX6 : ∀ w ∈ u_ws RX6 TX6 9, w ∈ gU := gIn [268, 270, 272, 274, 276, 278, 280, 282, 284] (by decide +kernel) (by decide +kernel)
set_option maxHeartbeats 4000000 in
set_option maxRecDepth 100000 in
theorem c_X6_init (l : Launch) (dC : Nat → ClassId) (dI : Nat → Nat → Nat) (sz : Nat) (h0 : Nat) (w : Nat) (sg : Nat) (ad : Nat) (rs : Nat) : Met l yX6_init (Cond.code yX6_init cX6_init 5 none :: gU) ({ frames := 2, cells := 72, slots := 7659, locals := 32 }) (gP dC dI sz [(h0, .inr (6, [.null, .null, .null, .null, .null, .null, .null, .int 0, .int 0]))] [] [.ref h0, .ref w, .ref sg, .ref ad, .ref rs]) (va_Qv (fun (_ : Unit) => True) (fun (_ : Unit) (t9 : State) => ∃ (cu : Nat), ∃ (c1 : Nat), ∃ (cC1 : ClassId), ∃ (gB1 : Nat → Nat), ∃ (sp : Nat), ∃ (c2 : Nat), ∃ (cC2 : ClassId), ∃ (gB2 : Nat → Nat), ∃ (gR : Nat → Nat), va_P (dC, dI) vwCl [(h0, .inr (6, oR w sg cu sp gR 0 0)), (cu, .inr (8, oB c1 gB1)), (c1, .inl (cC1, 10, .inl (fun _ => 0))), (sp, .inr (8, oB c2 gB2)), (c2, .inl (cC2, 10, .inl (fun _ => 0)))] t9.heap ∧ va_K (dC, dI) vwCl [(cC1, .int), (cC2, .int)] t9 ∧ va_D (va_A [(h0, .inr (6, [.null, .null, .null, .null, .null, .null, .null, .int 0, .int 0]))] sz) [(h0, .inr (6, oR w sg cu sp gR 0 0)), (cu, .inr (8, oB c1 gB1)), (c1, .inl (cC1, 10, .inl (fun _ => 0))), (sp, .inr (8, oB c2 gB2)), (c2, .inl (cC2, 10, .inl (fun _ => 0)))]) (va_A [(h0, .inr (6, [.null, .null, .null, .null, .null, .null, .null, .int 0, .int 0]))] sz)) 72 7659 (va_A [(h0, .inr (6, [.null, .null, .null, .null, .null, .null, .null, .int 0, .int 0]))] sz) := by
  refine Met.ofW (cc := cX6_init) (maxL := 5) (ret := none) (by decide) rfl ?_
  intro p e s m args below meth c s₁ B hml hv
  obtain ⟨rfl, hsz, hP, hK, hD0, hE⟩ := hv
  have hx := B.exec
  have hb := B.bytes
  have hr := B.returns
  have hts0 := atoms_spec (ws := Cond.code yX6_init cX6_init 5 none :: gU) B.pre
  have hts : ∀ w ∈ gU, w.before _ s = true := fun w h => hts0 w (List.mem_cons_of_mem _ h)
  have hown : s.vm.findClass RX6 = some m.cls := findClass_of_methodNamed B.named
  have hlocks := B.notSynchronized
  have hin : meth.name = "<init>" := (name_of_methodNamed B.named B.method).1
  subst hsz
  have hD := hD0.self (sz := s.heap.size)
  generalize hAe : va_A [(h0, .inr (6, [.null, .null, .null, .null, .null, .null, .null, .int 0, .int 0]))] s.heap.size = A at hD ⊢
  have hA : ∀ q : Nat, s.heap.size ≤ q → A q := fun q h => by rw [← hAe]; exact Or.inr h
  have hS : va_S A s.heap s.heap [] := va_S.rf
  have hP : va_P (dC, dI) vwCl [(h0, .inr (6, [.null, .null, .null, .null, .null, .null, .null, .int 0, .int 0]))] s.heap := hP
  have hl := lv_entry ([.ref h0, .ref w, .ref sg, .ref ad, .ref rs]) (n := 5) (Nat.le_of_ble_eq_true rfl)
  rw [lg_entry_eq]
  generalize (lg_sl ([.ref h0, .ref w, .ref sg, .ref ad, .ref rs]) ++ List.replicate (5 - (lg_sl ([.ref h0, .ref w, .ref sg, .ref ad, .ref rs])).length) Slot.unset).toArray = ls at hl ⊢
  have hl : lv_has ls 5 [(0, .ref h0), (1, .ref w), (2, .ref sg), (3, .ref ad), (4, .ref rs)] := hl
  refine lv_aload_n hx hb dX6_init_0 rfl (lv_at hl 0 rfl) ?_
  refine W.objInit hx hb hown (hts _ u_232) (hts _ u_29) (hts _ u_30) rfl (by rw [hml]; exact hl.1) rfl dX6_init_1 (Nat.le_of_ble_eq_true rfl) (Nat.le_of_ble_eq_true rfl) ?_
  refine W.eq (g2 := F0 m 4 ls []) rfl ?_
  refine lv_aload_n hx hb dX6_init_4 rfl (lv_at hl 0 rfl) ?_
  refine lv_aload_n hx hb dX6_init_5 rfl (lv_at hl 1 rfl) ?_
  refine va_putF (D := (dC, dI)) (ci := 6) (v := .ref w) (ty := (.object RX10)) (C := RX6) (T := TX6) (N := 9) hx hb hts gX6 tyX6 tyX6_ok nmX6 hown hK hP hD hS 0 rfl rfl 0 (by decide) (hts _ u_257) (fun _ h9 => h9) rfl hin rfl (by decide +kernel) rfl rfl (Nat.le_of_ble_eq_true rfl) dX6_init_6 (fun H419 locs hP hD hS => ?_)
  have hP : va_P (dC, dI) vwCl [(h0, .inr (6, [.ref w, .null, .null, .null, .null, .null, .null, .int 0, .int 0]))] H419 := hP
  have hD : va_D A [(h0, .inr (6, [.ref w, .null, .null, .null, .null, .null, .null, .int 0, .int 0]))] := hD
  refine lv_aload_n hx hb dX6_init_9 rfl (lv_at hl 0 rfl) ?_
  refine lv_aload_n hx hb dX6_init_10 rfl (lv_at hl 2 rfl) ?_
  refine va_putF (D := (dC, dI)) (ci := 6) (v := .ref sg) (ty := (.object RX7)) (C := RX6) (T := TX6) (N := 9) hx hb hts gX6 tyX6 tyX6_ok nmX6 hown hK hP hD hS 0 rfl rfl 1 (by decide) (hts _ u_258) (fun _ h9 => h9) rfl hin rfl (by decide +kernel) rfl rfl (Nat.le_of_ble_eq_true rfl) dX6_init_11 (fun H420 locs hP hD hS => ?_)
  have hP : va_P (dC, dI) vwCl [(h0, .inr (6, [.ref w, .ref sg, .null, .null, .null, .null, .null, .int 0, .int 0]))] H420 := hP
  have hD : va_D A [(h0, .inr (6, [.ref w, .ref sg, .null, .null, .null, .null, .null, .int 0, .int 0]))] := hD
  refine lv_aload_n hx hb dX6_init_14 rfl (lv_at hl 0 rfl) ?_
  refine lv_aload_n hx hb dX6_init_15 rfl (lv_at hl 3 rfl) ?_
  refine va_putF (D := (dC, dI)) (ci := 6) (v := .ref ad) (ty := (.object RX0)) (C := RX6) (T := TX6) (N := 9) hx hb hts gX6 tyX6 tyX6_ok nmX6 hown hK hP hD hS 0 rfl rfl 2 (by decide) (hts _ u_259) (fun _ h9 => h9) rfl hin rfl (by decide +kernel) rfl rfl (Nat.le_of_ble_eq_true rfl) dX6_init_16 (fun H421 locs hP hD hS => ?_)
  have hP : va_P (dC, dI) vwCl [(h0, .inr (6, [.ref w, .ref sg, .ref ad, .null, .null, .null, .null, .int 0, .int 0]))] H421 := hP
  have hD : va_D A [(h0, .inr (6, [.ref w, .ref sg, .ref ad, .null, .null, .null, .null, .int 0, .int 0]))] := hD
  refine lv_aload_n hx hb dX6_init_19 rfl (lv_at hl 0 rfl) ?_
  refine lv_aload hx hb dX6_init_20 (lv_at hl 4 rfl) ?_
  refine va_putF (D := (dC, dI)) (ci := 6) (v := .ref rs) (ty := (.array (.object RX5))) (C := RX6) (T := TX6) (N := 9) hx hb hts gX6 tyX6 tyX6_ok nmX6 hown hK hP hD hS 0 rfl rfl 3 (by decide) (hts _ u_260) (fun _ h9 => h9) rfl hin rfl (by decide +kernel) rfl rfl (Nat.le_of_ble_eq_true rfl) dX6_init_22 (fun H422 locs hP hD hS => ?_)
  have hP : va_P (dC, dI) vwCl [(h0, .inr (6, [.ref w, .ref sg, .ref ad, .ref rs, .null, .null, .null, .int 0, .int 0]))] H422 := hP
  have hD : va_D A [(h0, .inr (6, [.ref w, .ref sg, .ref ad, .ref rs, .null, .null, .null, .int 0, .int 0]))] := hD
  refine lv_aload_n hx hb dX6_init_25 rfl (lv_at hl 0 rfl) ?_
  refine va_new (ci := 8) (fs := [.null, .null, .null]) (C := RX8) (T := TX8) (N := 3) hx hb hts gX8 tyX8 tyX8_ok hown (hts _ u_233) (hts _ u_234) (hts _ u_9) hK hP hD hS hA rfl (fun j hj => by rcases (show j = 0 ∨ j = 1 ∨ j = 2 by omega) with rfl | rfl | rfl <;> rfl) (Nat.le_of_ble_eq_true rfl) (Nat.le_of_ble_eq_true rfl) dX6_init_26 (fun q423 H424 hP hD hS => ?_)
  have hP : va_P (dC, dI) vwCl [(h0, .inr (6, [.ref w, .ref sg, .ref ad, .ref rs, .null, .null, .null, .int 0, .int 0])), (q423, .inr (8, [.null, .null, .null]))] H424 := hP
  have hD : va_D A [(h0, .inr (6, [.ref w, .ref sg, .ref ad, .ref rs, .null, .null, .null, .int 0, .int 0])), (q423, .inr (8, [.null, .null, .null]))] := hD
  refine W.widen (k := 1) (n := 3) (Nat.le_of_ble_eq_true rfl) (Nat.le_of_ble_eq_true rfl) ?_
  refine lv_dup hx hb dX6_init_29 rfl ?_
  have hPc := hP.sub (ws' := [(q423, .inr (8, [.null, .null, .null]))]) [1] rfl
  have hDc := hD.sub (ws' := [(q423, .inr (8, [.null, .null, .null]))]) [1] (by decide) rfl
  have hKc := hK.sub (tys' := []) [] rfl
  have hFc := va_free (wc := [(q423, .inr (8, [.null, .null, .null]))]) hD hS hA [1] rfl
  refine va_callv (va_runI (As := []) (rest := [.ref q423, .ref h0]) ⟨hx, hb, hml, hown, hts⟩ (c_X8_init l dC dI H424.size q423) (cwI 0 hts (gC u_237) rfl rfl rfl (hts _ u_9) (hts _ u_235) (hts _ u_236) rfl (by decide +kernel) ⟨Nat.le_of_ble_eq_true rfl, Nat.le_of_ble_eq_true rfl⟩) ⟨gP_blind, gP_call hPc hKc hDc hE⟩ rfl rfl hl.1 rfl (lv_room (Nat.le_of_ble_eq_true rfl)) dX6_init_30 ⟨(Nat.le_of_ble_eq_true rfl), (Nat.le_of_ble_eq_true rfl)⟩) hS (fun q _ h => hFc q h) hFc (fun u9 t9 H425 locs ht hvm hw hB hz1 hk1 hS => ?_)
  obtain ⟨cn427, cC428, gB429, hP1, hK1, hD1⟩ := hB
  rw [ht] at hP1
  have hK1 := va_K.moved hvm.symm hK1
  obtain ⟨hP, hD⟩ := va_join (wr := [(h0, .inr (6, [.ref w, .ref sg, .ref ad, .ref rs, .null, .null, .null, .int 0, .int 0]))]) (w1 := [(q423, .inr (8, oB cn427 gB429)), (cn427, .inl (cC428, 10, .inl (fun _ => 0)))]) hP hD [1] [0] rfl rfl (by decide) (by decide) hk1 hFc hP1 hD1
  have hK := (hK.sub (tys' := []) [] rfl).app hK1
  have hK : va_K (dC, dI) vwCl [(cC428, .int)] s := hK
  have hP : va_P (dC, dI) vwCl [(h0, .inr (6, [.ref w, .ref sg, .ref ad, .ref rs, .null, .null, .null, .int 0, .int 0])), (q423, .inr (8, oB cn427 gB429)), (cn427, .inl (cC428, 10, .inl (fun _ => 0)))] H425 := hP
  have hD : va_D A [(h0, .inr (6, [.ref w, .ref sg, .ref ad, .ref rs, .null, .null, .null, .int 0, .int 0])), (q423, .inr (8, oB cn427 gB429)), (cn427, .inl (cC428, 10, .inl (fun _ => 0)))] := hD
  refine W.widen (k := 24) (n := 2553) (Nat.le_of_ble_eq_true rfl) (Nat.le_of_ble_eq_true rfl) ?_
  refine va_put (D := (dC, dI)) (ci := 6) (v := .ref q423) (ty := (.object RX8)) (C := RX6) (T := TX6) (N := 9) hx hb hts gX6 tyX6 tyX6_ok nmX6 hown hK hP hD hS 0 rfl rfl 4 (by decide) (hts _ u_261) (fun _ h9 => h9) rfl (by decide +kernel) rfl rfl (Nat.le_of_ble_eq_true rfl) dX6_init_33 (fun H430 locs hP hD hS => ?_)
  have hP : va_P (dC, dI) vwCl [(h0, .inr (6, [.ref w, .ref sg, .ref ad, .ref rs, .ref q423, .null, .null, .int 0, .int 0])), (q423, .inr (8, oB cn427 gB429)), (cn427, .inl (cC428, 10, .inl (fun _ => 0)))] H430 := hP
  have hD : va_D A [(h0, .inr (6, [.ref w, .ref sg, .ref ad, .ref rs, .ref q423, .null, .null, .int 0, .int 0])), (q423, .inr (8, oB cn427 gB429)), (cn427, .inl (cC428, 10, .inl (fun _ => 0)))] := hD
  refine lv_aload_n hx hb dX6_init_36 rfl (lv_at hl 0 rfl) ?_
  refine va_new (ci := 8) (fs := [.null, .null, .null]) (C := RX8) (T := TX8) (N := 3) hx hb hts gX8 tyX8 tyX8_ok hown (hts _ u_233) (hts _ u_234) (hts _ u_9) hK hP hD hS hA rfl (fun j hj => by rcases (show j = 0 ∨ j = 1 ∨ j = 2 by omega) with rfl | rfl | rfl <;> rfl) (Nat.le_of_ble_eq_true rfl) (Nat.le_of_ble_eq_true rfl) dX6_init_37 (fun q431 H432 hP hD hS => ?_)
  have hP : va_P (dC, dI) vwCl [(h0, .inr (6, [.ref w, .ref sg, .ref ad, .ref rs, .ref q423, .null, .null, .int 0, .int 0])), (q423, .inr (8, oB cn427 gB429)), (cn427, .inl (cC428, 10, .inl (fun _ => 0))), (q431, .inr (8, [.null, .null, .null]))] H432 := hP
  have hD : va_D A [(h0, .inr (6, [.ref w, .ref sg, .ref ad, .ref rs, .ref q423, .null, .null, .int 0, .int 0])), (q423, .inr (8, oB cn427 gB429)), (cn427, .inl (cC428, 10, .inl (fun _ => 0))), (q431, .inr (8, [.null, .null, .null]))] := hD
  refine W.widen (k := 25) (n := 2556) (Nat.le_of_ble_eq_true rfl) (Nat.le_of_ble_eq_true rfl) ?_
  refine lv_dup hx hb dX6_init_40 rfl ?_
  have hPc := hP.sub (ws' := [(q431, .inr (8, [.null, .null, .null]))]) [3] rfl
  have hDc := hD.sub (ws' := [(q431, .inr (8, [.null, .null, .null]))]) [3] (by decide) rfl
  have hKc := hK.sub (tys' := []) [] rfl
  have hFc := va_free (wc := [(q431, .inr (8, [.null, .null, .null]))]) hD hS hA [3] rfl
  refine va_callv (va_runI (As := []) (rest := [.ref q431, .ref h0]) ⟨hx, hb, hml, hown, hts⟩ (c_X8_init l dC dI H432.size q431) (cwI 0 hts (gC u_237) rfl rfl rfl (hts _ u_9) (hts _ u_235) (hts _ u_236) rfl (by decide +kernel) ⟨Nat.le_of_ble_eq_true rfl, Nat.le_of_ble_eq_true rfl⟩) ⟨gP_blind, gP_call hPc hKc hDc hE⟩ rfl rfl hl.1 rfl (lv_room (Nat.le_of_ble_eq_true rfl)) dX6_init_41 ⟨(Nat.le_of_ble_eq_true rfl), (Nat.le_of_ble_eq_true rfl)⟩) hS (fun q _ h => hFc q h) hFc (fun u9 t9 H433 locs ht hvm hw hB hz1 hk1 hS => ?_)
  obtain ⟨cn435, cC436, gB437, hP1, hK1, hD1⟩ := hB
  rw [ht] at hP1
  have hK1 := va_K.moved hvm.symm hK1
  obtain ⟨hP, hD⟩ := va_join (wr := [(h0, .inr (6, [.ref w, .ref sg, .ref ad, .ref rs, .ref q423, .null, .null, .int 0, .int 0])), (q423, .inr (8, oB cn427 gB429)), (cn427, .inl (cC428, 10, .inl (fun _ => 0)))]) (w1 := [(q431, .inr (8, oB cn435 gB437)), (cn435, .inl (cC436, 10, .inl (fun _ => 0)))]) hP hD [3] [0, 1, 2] rfl rfl (by decide) (by decide) hk1 hFc hP1 hD1
  have hK := (hK.sub (tys' := [(cC428, .int)]) [0] rfl).app hK1
  have hK : va_K (dC, dI) vwCl [(cC428, .int), (cC436, .int)] s := hK
  have hP : va_P (dC, dI) vwCl [(h0, .inr (6, [.ref w, .ref sg, .ref ad, .ref rs, .ref q423, .null, .null, .int 0, .int 0])), (q423, .inr (8, oB cn427 gB429)), (cn427, .inl (cC428, 10, .inl (fun _ => 0))), (q431, .inr (8, oB cn435 gB437)), (cn435, .inl (cC436, 10, .inl (fun _ => 0)))] H433 := hP
  have hD : va_D A [(h0, .inr (6, [.ref w, .ref sg, .ref ad, .ref rs, .ref q423, .null, .null, .int 0, .int 0])), (q423, .inr (8, oB cn427 gB429)), (cn427, .inl (cC428, 10, .inl (fun _ => 0))), (q431, .inr (8, oB cn435 gB437)), (cn435, .inl (cC436, 10, .inl (fun _ => 0)))] := hD
  refine W.widen (k := 48) (n := 5106) (Nat.le_of_ble_eq_true rfl) (Nat.le_of_ble_eq_true rfl) ?_
  refine va_put (D := (dC, dI)) (ci := 6) (v := .ref q431) (ty := (.object RX8)) (C := RX6) (T := TX6) (N := 9) hx hb hts gX6 tyX6 tyX6_ok nmX6 hown hK hP hD hS 0 rfl rfl 5 (by decide) (hts _ u_263) (fun _ h9 => h9) rfl (by decide +kernel) rfl rfl (Nat.le_of_ble_eq_true rfl) dX6_init_44 (fun H438 locs hP hD hS => ?_)
  have hP : va_P (dC, dI) vwCl [(h0, .inr (6, [.ref w, .ref sg, .ref ad, .ref rs, .ref q423, .ref q431, .null, .int 0, .int 0])), (q423, .inr (8, oB cn427 gB429)), (cn427, .inl (cC428, 10, .inl (fun _ => 0))), (q431, .inr (8, oB cn435 gB437)), (cn435, .inl (cC436, 10, .inl (fun _ => 0)))] H438 := hP
  have hD : va_D A [(h0, .inr (6, [.ref w, .ref sg, .ref ad, .ref rs, .ref q423, .ref q431, .null, .int 0, .int 0])), (q423, .inr (8, oB cn427 gB429)), (cn427, .inl (cC428, 10, .inl (fun _ => 0))), (q431, .inr (8, oB cn435 gB437)), (cn435, .inl (cC436, 10, .inl (fun _ => 0)))] := hD
  refine lv_aload_n hx hb dX6_init_47 rfl (lv_at hl 0 rfl) ?_
  refine va_new (ci := 8) (fs := [.null, .null, .null]) (C := RX8) (T := TX8) (N := 3) hx hb hts gX8 tyX8 tyX8_ok hown (hts _ u_233) (hts _ u_234) (hts _ u_9) hK hP hD hS hA rfl (fun j hj => by rcases (show j = 0 ∨ j = 1 ∨ j = 2 by omega) with rfl | rfl | rfl <;> rfl) (Nat.le_of_ble_eq_true rfl) (Nat.le_of_ble_eq_true rfl) dX6_init_48 (fun q439 H440 hP hD hS => ?_)
  have hP : va_P (dC, dI) vwCl [(h0, .inr (6, [.ref w, .ref sg, .ref ad, .ref rs, .ref q423, .ref q431, .null, .int 0, .int 0])), (q423, .inr (8, oB cn427 gB429)), (cn427, .inl (cC428, 10, .inl (fun _ => 0))), (q431, .inr (8, oB cn435 gB437)), (cn435, .inl (cC436, 10, .inl (fun _ => 0))), (q439, .inr (8, [.null, .null, .null]))] H440 := hP
  have hD : va_D A [(h0, .inr (6, [.ref w, .ref sg, .ref ad, .ref rs, .ref q423, .ref q431, .null, .int 0, .int 0])), (q423, .inr (8, oB cn427 gB429)), (cn427, .inl (cC428, 10, .inl (fun _ => 0))), (q431, .inr (8, oB cn435 gB437)), (cn435, .inl (cC436, 10, .inl (fun _ => 0))), (q439, .inr (8, [.null, .null, .null]))] := hD
  refine W.widen (k := 49) (n := 5109) (Nat.le_of_ble_eq_true rfl) (Nat.le_of_ble_eq_true rfl) ?_
  refine lv_dup hx hb dX6_init_51 rfl ?_
  have hPc := hP.sub (ws' := [(q439, .inr (8, [.null, .null, .null]))]) [5] rfl
  have hDc := hD.sub (ws' := [(q439, .inr (8, [.null, .null, .null]))]) [5] (by decide) rfl
  have hKc := hK.sub (tys' := []) [] rfl
  have hFc := va_free (wc := [(q439, .inr (8, [.null, .null, .null]))]) hD hS hA [5] rfl
  refine va_callv (va_runI (As := []) (rest := [.ref q439, .ref h0]) ⟨hx, hb, hml, hown, hts⟩ (c_X8_init l dC dI H440.size q439) (cwI 0 hts (gC u_237) rfl rfl rfl (hts _ u_9) (hts _ u_235) (hts _ u_236) rfl (by decide +kernel) ⟨Nat.le_of_ble_eq_true rfl, Nat.le_of_ble_eq_true rfl⟩) ⟨gP_blind, gP_call hPc hKc hDc hE⟩ rfl rfl hl.1 rfl (lv_room (Nat.le_of_ble_eq_true rfl)) dX6_init_52 ⟨(Nat.le_of_ble_eq_true rfl), (Nat.le_of_ble_eq_true rfl)⟩) hS (fun q _ h => hFc q h) hFc (fun u9 t9 H441 locs ht hvm hw hB hz1 hk1 hS => ?_)
  obtain ⟨cn443, cC444, gB445, hP1, hK1, hD1⟩ := hB
  rw [ht] at hP1
  have hK1 := va_K.moved hvm.symm hK1
  obtain ⟨hP, hD⟩ := va_join (wr := [(h0, .inr (6, [.ref w, .ref sg, .ref ad, .ref rs, .ref q423, .ref q431, .null, .int 0, .int 0])), (q423, .inr (8, oB cn427 gB429)), (cn427, .inl (cC428, 10, .inl (fun _ => 0))), (q431, .inr (8, oB cn435 gB437)), (cn435, .inl (cC436, 10, .inl (fun _ => 0)))]) (w1 := [(q439, .inr (8, oB cn443 gB445)), (cn443, .inl (cC444, 10, .inl (fun _ => 0)))]) hP hD [5] [0, 1, 2, 3, 4] rfl rfl (by decide) (by decide) hk1 hFc hP1 hD1
  have hK := (hK.sub (tys' := [(cC428, .int), (cC436, .int)]) [0, 1] rfl).app hK1
  have hK : va_K (dC, dI) vwCl [(cC428, .int), (cC436, .int), (cC444, .int)] s := hK
  have hP : va_P (dC, dI) vwCl [(h0, .inr (6, [.ref w, .ref sg, .ref ad, .ref rs, .ref q423, .ref q431, .null, .int 0, .int 0])), (q423, .inr (8, oB cn427 gB429)), (cn427, .inl (cC428, 10, .inl (fun _ => 0))), (q431, .inr (8, oB cn435 gB437)), (cn435, .inl (cC436, 10, .inl (fun _ => 0))), (q439, .inr (8, oB cn443 gB445)), (cn443, .inl (cC444, 10, .inl (fun _ => 0)))] H441 := hP
  have hD : va_D A [(h0, .inr (6, [.ref w, .ref sg, .ref ad, .ref rs, .ref q423, .ref q431, .null, .int 0, .int 0])), (q423, .inr (8, oB cn427 gB429)), (cn427, .inl (cC428, 10, .inl (fun _ => 0))), (q431, .inr (8, oB cn435 gB437)), (cn435, .inl (cC436, 10, .inl (fun _ => 0))), (q439, .inr (8, oB cn443 gB445)), (cn443, .inl (cC444, 10, .inl (fun _ => 0)))] := hD
  refine W.widen (k := 72) (n := 7659) (Nat.le_of_ble_eq_true rfl) (Nat.le_of_ble_eq_true rfl) ?_
  refine va_put (D := (dC, dI)) (ci := 6) (v := .ref q439) (ty := (.object RX8)) (C := RX6) (T := TX6) (N := 9) hx hb hts gX6 tyX6 tyX6_ok nmX6 hown hK hP hD hS 0 rfl rfl 6 (by decide) (hts _ u_265) (fun _ h9 => h9) rfl (by decide +kernel) rfl rfl (Nat.le_of_ble_eq_true rfl) dX6_init_55 (fun H446 locs hP hD hS => ?_)
  have hP : va_P (dC, dI) vwCl [(h0, .inr (6, [.ref w, .ref sg, .ref ad, .ref rs, .ref q423, .ref q431, .ref q439, .int 0, .int 0])), (q423, .inr (8, oB cn427 gB429)), (cn427, .inl (cC428, 10, .inl (fun _ => 0))), (q431, .inr (8, oB cn435 gB437)), (cn435, .inl (cC436, 10, .inl (fun _ => 0))), (q439, .inr (8, oB cn443 gB445)), (cn443, .inl (cC444, 10, .inl (fun _ => 0)))] H446 := hP
  have hD : va_D A [(h0, .inr (6, [.ref w, .ref sg, .ref ad, .ref rs, .ref q423, .ref q431, .ref q439, .int 0, .int 0])), (q423, .inr (8, oB cn427 gB429)), (cn427, .inl (cC428, 10, .inl (fun _ => 0))), (q431, .inr (8, oB cn435 gB437)), (cn435, .inl (cC436, 10, .inl (fun _ => 0))), (q439, .inr (8, oB cn443 gB445)), (cn443, .inl (cC444, 10, .inl (fun _ => 0)))] := hD
  have hP := hP.sub (ws' := [(h0, .inr (6, [.ref w, .ref sg, .ref ad, .ref rs, .ref q423, .ref q431, .ref q439, .int 0, .int 0])), (q423, .inr (8, oB cn427 gB429)), (cn427, .inl (cC428, 10, .inl (fun _ => 0))), (q439, .inr (8, oB cn443 gB445)), (cn443, .inl (cC444, 10, .inl (fun _ => 0)))]) [0, 1, 2, 5, 6] rfl
  have hD := hD.sub (ws' := [(h0, .inr (6, [.ref w, .ref sg, .ref ad, .ref rs, .ref q423, .ref q431, .ref q439, .int 0, .int 0])), (q423, .inr (8, oB cn427 gB429)), (cn427, .inl (cC428, 10, .inl (fun _ => 0))), (q439, .inr (8, oB cn443 gB445)), (cn443, .inl (cC444, 10, .inl (fun _ => 0)))]) [0, 1, 2, 5, 6] (by decide) rfl
  have hK := hK.sub (tys' := [(cC428, .int), (cC444, .int)]) [0, 2] rfl
  refine W.widen (k := 72) (n := 7659) (Nat.le_of_ble_eq_true rfl) (Nat.le_of_ble_eq_true rfl) ?_
  exact W.vret hx hb hr (fun t ht hW => ⟨⟨(), rfl, trivial, ⟨q423, cn427, cC428, gB429, q439, cn443, cC444, gB445, (fun k => [ad, rs, q431].getD k 0), by rw [ht]; exact hP, va_K.moved hW.alike hK, hD⟩⟩, hS.F ht⟩) hS.2.2 dX6_init_58
set_option maxHeartbeats 4000000 in
set_option maxRecDepth 100000 in
theorem lp_frames {p : Program} {l : Launch} {e : Env} {R : Room} {s : State} {m : MethodId} {args : Array Value} {below : List Frame} {meth : Method} {c : Code} {Q : State → Prop} {dC : Nat → ClassId} {dI : Nat → Nat → Nat} {A : Nat → Prop} {c0 s0 : Nat} {h0 qr v1 v2 v3 v4 v5 : Nat} {F : List Value} (hF : F[7]? = some (.ref qr)) {cR : ClassId} (hx : p.tables.exec = Jvm.exec) (hb : c.code = cX9_init) (hml : c.maxLocals = 7) (hown : s.vm.findClass RX9 = some m.cls) (hts : ∀ w ∈ gU, w.before args s = true) (hE : gEnv s) (hA : ∀ q : Nat, s.heap.size ≤ q → A q) (hK : va_K (dC, dI) vwCl [(cR, .object RX1)] s)  (hRc : c0 + 1 * 65 ≤ R.cells) (hRs : s0 + 8 * 65 ≤ R.slots) (hRf : 2 ≤ R.frames) (hRl : 32 ≤ R.locals)
    (kk : ∀ (f : Nat → Option Nat), ∀ (H : Heap) (locs : List Loc), va_P (dC, dI) vwCl [(h0, .inr (9, F)), (qr, .inl (cR, 65, .inr (.inr (.inr (.inr f)))))] H → va_D A [(h0, .inr (9, F)), (qr, .inl (cR, 65, .inr (.inr (.inr (.inr f)))))] → va_S A s.heap H locs → ∀ ls : Array Slot, lv_has ls 7 [(0, .ref h0), (1, .ref v1), (2, .ref v2), (3, .ref v3), (4, .ref v4), (5, .ref v5), (6, .int (nI 65))] → W p l e R s m args below meth c H locs (c0 + 1 * 65) (s0 + 8 * 65) Q (F0 m 81 ls [])) :
    ∀ (n i : Nat) (x : Int32) (f : Nat → Option Nat), i ≤ 65 → 65 + 1 ≤ i + n → x = nI i → ∀ (H : Heap) (locs : List Loc), va_P (dC, dI) vwCl [(h0, .inr (9, F)), (qr, .inl (cR, 65, .inr (.inr (.inr (.inr f)))))] H → va_D A [(h0, .inr (9, F)), (qr, .inl (cR, 65, .inr (.inr (.inr (.inr f)))))] → va_S A s.heap H locs → ∀ ls : Array Slot, lv_has ls 7 [(0, .ref h0), (1, .ref v1), (2, .ref v2), (3, .ref v3), (4, .ref v4), (5, .ref v5), (6, .int x)] → W p l e R s m args below meth c H locs (c0 + 1 * i) (s0 + 8 * i) Q (F0 m 54 ls []) := by
  intro n
  induction n with
  | zero => intro i x f h1 h2; exact absurd h2 (by omega)
  | succ n ih =>
    intro i x f hi hin ex   H locs hP hD hS ls hl
    refine lv_iload hx hb dX9_init_54 (lv_at hl 6 rfl) ?_
    refine lv_bipush (v := 65) hx hb dX9_init_56 (by decide) ?_
    refine lv_icmp_ge (tgt := 81) hx hb dX9_init_58 (by decide) (fun c9 => ?_) (fun c9 => ?_)
    · have hiN := lpE (N := 65) ex (by omega) hi c9
      subst hiN
      subst ex
      exact kk f   _ _ hP hD hS ls hl
    · have hiL := lpL (N := 65) ex hi (by omega) c9
      refine lv_aload_n hx hb dX9_init_61 rfl (lv_at hl 0 rfl) ?_
      refine va_get (D := (dC, dI)) (ci := 9) (v := .ref qr) (C := RX9) (T := TX9) (N := 19) hx hb hts gX9 hown hK hP 0 rfl rfl 7 (by decide) (hts _ u_360) (fun _ h9 => h9) hF dX9_init_62 ?_
      refine lv_iload hx hb dX9_init_65 (lv_at hl 6 rfl) ?_
      refine va_new (ci := 1) (fs := [.int 0, .int 0, .int 0, .int 0, .int 0, .int 0, .int 0, .int 0]) (C := RX1) (T := TX1) (N := 8) hx hb hts gX1 tyX1 tyX1_ok hown (hts _ u_310) (hts _ u_312) (hts _ u_12) hK hP hD hS hA rfl (fun j hj => by rcases (show j = 0 ∨ j = 1 ∨ j = 2 ∨ j = 3 ∨ j = 4 ∨ j = 5 ∨ j = 6 ∨ j = 7 by omega) with rfl | rfl | rfl | rfl | rfl | rfl | rfl | rfl <;> rfl) (by omega) (by omega) dX9_init_67 (fun q447 H448 hP hD hS => ?_)
      have hP : va_P (dC, dI) vwCl [(h0, .inr (9, F)), (qr, .inl (cR, 65, .inr (.inr (.inr (.inr f))))), (q447, .inr (1, [.int 0, .int 0, .int 0, .int 0, .int 0, .int 0, .int 0, .int 0]))] H448 := hP
      have hD : va_D A [(h0, .inr (9, F)), (qr, .inl (cR, 65, .inr (.inr (.inr (.inr f))))), (q447, .inr (1, [.int 0, .int 0, .int 0, .int 0, .int 0, .int 0, .int 0, .int 0]))] := hD
      refine lv_dup hx hb dX9_init_70 rfl ?_
      have hPc := hP.sub (ws' := [(q447, .inr (1, [.int 0, .int 0, .int 0, .int 0, .int 0, .int 0, .int 0, .int 0]))]) [2] rfl
      have hDc := hD.sub (ws' := [(q447, .inr (1, [.int 0, .int 0, .int 0, .int 0, .int 0, .int 0, .int 0, .int 0]))]) [2] (by decide) rfl
      have hKc := hK.sub (tys' := []) [] rfl
      have hFc := va_free (wc := [(q447, .inr (1, [.int 0, .int 0, .int 0, .int 0, .int 0, .int 0, .int 0, .int 0]))]) hD hS hA [2] rfl
      refine va_callv (va_runIN (As := []) (rest := [.ref q447, .int x, .ref qr]) ⟨hx, hb, hml, hown, hts⟩ (c_X1_init l dC dI H448.size q447) ⟨va_cnB 0 hts (gC u_315) rfl rfl rfl (hE.1 _ n_7) (hts _ u_12) (by decide +kernel) ⟨Nat.le_trans (Nat.le_of_ble_eq_true rfl) hRf, Nat.le_trans (Nat.le_of_ble_eq_true rfl) hRl⟩, rfl, hts _ u_314⟩ ⟨gP_blind, gP_call hPc hKc hDc hE⟩ rfl rfl hl.1 rfl (lv_room (Nat.le_of_ble_eq_true rfl)) dX9_init_71 ⟨(by omega), (by omega)⟩) hS (fun q _ h => hFc q h) hFc (fun u9 t9 H449 locs ht hvm hw hB hz1 hk1 hS => ?_)
      obtain ⟨g9451, hP1, hK1, hD1⟩ := hB
      rw [ht] at hP1
      have hK1 := va_K.moved hvm.symm hK1
      obtain ⟨hP, hD⟩ := va_join (wr := [(h0, .inr (9, F)), (qr, .inl (cR, 65, .inr (.inr (.inr (.inr f)))))]) (w1 := [(q447, .inr (1, [.int 0, .int 0, .int 0, .int 0, .int 0, .int 0, .int 0, .int 0]))]) hP hD [2] [0, 1] rfl rfl (by decide) (by decide) hk1 hFc hP1 hD1
      have hK := (hK.sub (tys' := [(cR, .object RX1)]) [0] rfl).app hK1
      have hK : va_K (dC, dI) vwCl [(cR, .object RX1)] s := hK
      have hP : va_P (dC, dI) vwCl [(h0, .inr (9, F)), (qr, .inl (cR, 65, .inr (.inr (.inr (.inr f))))), (q447, .inr (1, [.int 0, .int 0, .int 0, .int 0, .int 0, .int 0, .int 0, .int 0]))] H449 := hP
      have hD : va_D A [(h0, .inr (9, F)), (qr, .inl (cR, 65, .inr (.inr (.inr (.inr f))))), (q447, .inr (1, [.int 0, .int 0, .int 0, .int 0, .int 0, .int 0, .int 0, .int 0]))] := hD
      refine va_astq hx hb hK hP hD hS 1 0 2 1 rfl rfl rfl rfl (by rw [ex]; exact vp_in_nI (by omega) (by omega)) dX9_init_74 (fun H452 locs hP hD hS => ?_)
      generalize hff453 : va_up f (x).toNatClampNeg (some q447) = f453 at hP hD
      have hP : va_P (dC, dI) vwCl [(h0, .inr (9, F)), (qr, .inl (cR, 65, .inr (.inr (.inr (.inr f453))))), (q447, .inr (1, [.int 0, .int 0, .int 0, .int 0, .int 0, .int 0, .int 0, .int 0]))] H452 := hP
      have hD : va_D A [(h0, .inr (9, F)), (qr, .inl (cR, 65, .inr (.inr (.inr (.inr f453))))), (q447, .inr (1, [.int 0, .int 0, .int 0, .int 0, .int 0, .int 0, .int 0, .int 0]))] := hD
      have hP := hP.sub (ws' := [(h0, .inr (9, F)), (qr, .inl (cR, 65, .inr (.inr (.inr (.inr f453)))))]) [0, 1] rfl
      have hD := hD.sub (ws' := [(h0, .inr (9, F)), (qr, .inl (cR, 65, .inr (.inr (.inr (.inr f453)))))]) [0, 1] (by decide) rfl
      have hK := hK.sub (tys' := [(cR, .object RX1)]) [0] rfl
      obtain ⟨x454, ex454⟩ : ∃ y : Int32, y = x + 1 := ⟨_, rfl⟩
      refine lv_iinc (v := x454) (lv' := [(6, .int x454), (0, .ref h0), (1, .ref v1), (2, .ref v2), (3, .ref v3), (4, .ref v4), (5, .ref v5)]) hx hb dX9_init_75 hl (k := 6) rfl (by rw [ex454]; rfl) (by decide) rfl (fun ls hl => ?_)
      refine lv_goto (tgt := 54) hx hb dX9_init_78 (by decide) ?_
      refine W.widen (k := c0 + 1 * (i + 1)) (n := s0 + 8 * (i + 1)) (by omega) (by omega) ?_
      exact ih (i + 1) x454 f453 hiL (by omega) (by rw [ex454, ex]; exact nI_1 i)   _ _ hP hD hS ls (lv_sub hl [1, 2, 3, 4, 5, 6, 0] rfl)
set_option maxHeartbeats 4000000 in
set_option maxRecDepth 100000 in
theorem c_X9_init (l : Launch) (dC : Nat → ClassId) (dI : Nat → Nat → Nat) (sz : Nat) (h0 : Nat) (w : Nat) (sg : Nat) (ad : Nat) (rs : Nat) (ro : Nat) : Met l yX9_init (Cond.code yX9_init cX9_init 7 none :: gU) ({ frames := 3, cells := 97, slots := 5812, locals := 60 }) (gP dC dI sz [(h0, .inr (9, [.null, .null, .null, .null, .null, .null, .int 0, .null, .int 0, .int 0, .null, .int 0, .null, .null, .null, .null, .null, .null, .null]))] [] [.ref h0, .ref w, .ref sg, .ref ad, .ref rs, .ref ro]) (va_Qv (fun (_ : Unit) => True) (fun (_ : Unit) (t9 : State) => ∃ (gT : Nat → Nat), va_P (dC, dI) vwCl [(h0, .inr (9, oT w sg ro gT 0 0 0 0))] t9.heap ∧ va_K (dC, dI) vwCl [] t9 ∧ va_D (va_A [(h0, .inr (9, [.null, .null, .null, .null, .null, .null, .int 0, .null, .int 0, .int 0, .null, .int 0, .null, .null, .null, .null, .null, .null, .null]))] sz) [(h0, .inr (9, oT w sg ro gT 0 0 0 0))]) (va_A [(h0, .inr (9, [.null, .null, .null, .null, .null, .null, .int 0, .null, .int 0, .int 0, .null, .int 0, .null, .null, .null, .null, .null, .null, .null]))] sz)) 97 5812 (va_A [(h0, .inr (9, [.null, .null, .null, .null, .null, .null, .int 0, .null, .int 0, .int 0, .null, .int 0, .null, .null, .null, .null, .null, .null, .null]))] sz) := by
  refine Met.ofW (cc := cX9_init) (maxL := 7) (ret := none) (by decide) rfl ?_
  intro p e s m args below meth c s₁ B hml hv
  obtain ⟨rfl, hsz, hP, hK, hD0, hE⟩ := hv
  have hx := B.exec
  have hb := B.bytes
  have hr := B.returns
  have hts0 := atoms_spec (ws := Cond.code yX9_init cX9_init 7 none :: gU) B.pre
  have hts : ∀ w ∈ gU, w.before _ s = true := fun w h => hts0 w (List.mem_cons_of_mem _ h)
  have hown : s.vm.findClass RX9 = some m.cls := findClass_of_methodNamed B.named
  have hlocks := B.notSynchronized
  have hin : meth.name = "<init>" := (name_of_methodNamed B.named B.method).1
  subst hsz
  have hD := hD0.self (sz := s.heap.size)
  generalize hAe : va_A [(h0, .inr (9, [.null, .null, .null, .null, .null, .null, .int 0, .null, .int 0, .int 0, .null, .int 0, .null, .null, .null, .null, .null, .null, .null]))] s.heap.size = A at hD ⊢
  have hA : ∀ q : Nat, s.heap.size ≤ q → A q := fun q h => by rw [← hAe]; exact Or.inr h
  have hS : va_S A s.heap s.heap [] := va_S.rf
  have hP : va_P (dC, dI) vwCl [(h0, .inr (9, [.null, .null, .null, .null, .null, .null, .int 0, .null, .int 0, .int 0, .null, .int 0, .null, .null, .null, .null, .null, .null, .null]))] s.heap := hP
  have hl := lv_entry ([.ref h0, .ref w, .ref sg, .ref ad, .ref rs, .ref ro]) (n := 7) (Nat.le_of_ble_eq_true rfl)
  rw [lg_entry_eq]
  generalize (lg_sl ([.ref h0, .ref w, .ref sg, .ref ad, .ref rs, .ref ro]) ++ List.replicate (7 - (lg_sl ([.ref h0, .ref w, .ref sg, .ref ad, .ref rs, .ref ro])).length) Slot.unset).toArray = ls at hl ⊢
  have hl : lv_has ls 7 [(0, .ref h0), (1, .ref w), (2, .ref sg), (3, .ref ad), (4, .ref rs), (5, .ref ro)] := hl
  refine lv_aload_n hx hb dX9_init_0 rfl (lv_at hl 0 rfl) ?_
  refine W.objInit hx hb hown (hts _ u_292) (hts _ u_29) (hts _ u_30) rfl (by rw [hml]; exact hl.1) rfl dX9_init_1 (Nat.le_of_ble_eq_true rfl) (Nat.le_of_ble_eq_true rfl) ?_
  refine W.eq (g2 := F0 m 4 ls []) rfl ?_
  refine lv_aload_n hx hb dX9_init_4 rfl (lv_at hl 0 rfl) ?_
  refine lv_aload_n hx hb dX9_init_5 rfl (lv_at hl 1 rfl) ?_
  refine va_putF (D := (dC, dI)) (ci := 9) (v := .ref w) (ty := (.object RX10)) (C := RX9) (T := TX9) (N := 19) hx hb hts gX9 tyX9 tyX9_ok nmX9 hown hK hP hD hS 0 rfl rfl 0 (by decide) (hts _ u_352) (fun _ h9 => h9) rfl hin rfl (by decide +kernel) rfl rfl (Nat.le_of_ble_eq_true rfl) dX9_init_6 (fun H455 locs hP hD hS => ?_)
  have hP : va_P (dC, dI) vwCl [(h0, .inr (9, [.ref w, .null, .null, .null, .null, .null, .int 0, .null, .int 0, .int 0, .null, .int 0, .null, .null, .null, .null, .null, .null, .null]))] H455 := hP
  have hD : va_D A [(h0, .inr (9, [.ref w, .null, .null, .null, .null, .null, .int 0, .null, .int 0, .int 0, .null, .int 0, .null, .null, .null, .null, .null, .null, .null]))] := hD
  refine lv_aload_n hx hb dX9_init_9 rfl (lv_at hl 0 rfl) ?_
  refine lv_aload_n hx hb dX9_init_10 rfl (lv_at hl 2 rfl) ?_
  refine va_putF (D := (dC, dI)) (ci := 9) (v := .ref sg) (ty := (.object RX7)) (C := RX9) (T := TX9) (N := 19) hx hb hts gX9 tyX9 tyX9_ok nmX9 hown hK hP hD hS 0 rfl rfl 1 (by decide) (hts _ u_353) (fun _ h9 => h9) rfl hin rfl (by decide +kernel) rfl rfl (Nat.le_of_ble_eq_true rfl) dX9_init_11 (fun H456 locs hP hD hS => ?_)
  have hP : va_P (dC, dI) vwCl [(h0, .inr (9, [.ref w, .ref sg, .null, .null, .null, .null, .int 0, .null, .int 0, .int 0, .null, .int 0, .null, .null, .null, .null, .null, .null, .null]))] H456 := hP
  have hD : va_D A [(h0, .inr (9, [.ref w, .ref sg, .null, .null, .null, .null, .int 0, .null, .int 0, .int 0, .null, .int 0, .null, .null, .null, .null, .null, .null, .null]))] := hD
  refine lv_aload_n hx hb dX9_init_14 rfl (lv_at hl 0 rfl) ?_
  refine lv_aload_n hx hb dX9_init_15 rfl (lv_at hl 3 rfl) ?_
  refine va_putF (D := (dC, dI)) (ci := 9) (v := .ref ad) (ty := (.object RX0)) (C := RX9) (T := TX9) (N := 19) hx hb hts gX9 tyX9 tyX9_ok nmX9 hown hK hP hD hS 0 rfl rfl 2 (by decide) (hts _ u_354) (fun _ h9 => h9) rfl hin rfl (by decide +kernel) rfl rfl (Nat.le_of_ble_eq_true rfl) dX9_init_16 (fun H457 locs hP hD hS => ?_)
  have hP : va_P (dC, dI) vwCl [(h0, .inr (9, [.ref w, .ref sg, .ref ad, .null, .null, .null, .int 0, .null, .int 0, .int 0, .null, .int 0, .null, .null, .null, .null, .null, .null, .null]))] H457 := hP
  have hD : va_D A [(h0, .inr (9, [.ref w, .ref sg, .ref ad, .null, .null, .null, .int 0, .null, .int 0, .int 0, .null, .int 0, .null, .null, .null, .null, .null, .null, .null]))] := hD
  refine lv_aload_n hx hb dX9_init_19 rfl (lv_at hl 0 rfl) ?_
  refine lv_aload hx hb dX9_init_20 (lv_at hl 4 rfl) ?_
  refine va_putF (D := (dC, dI)) (ci := 9) (v := .ref rs) (ty := (.array (.object RX5))) (C := RX9) (T := TX9) (N := 19) hx hb hts gX9 tyX9 tyX9_ok nmX9 hown hK hP hD hS 0 rfl rfl 3 (by decide) (hts _ u_355) (fun _ h9 => h9) rfl hin rfl (by decide +kernel) rfl rfl (Nat.le_of_ble_eq_true rfl) dX9_init_22 (fun H458 locs hP hD hS => ?_)
  have hP : va_P (dC, dI) vwCl [(h0, .inr (9, [.ref w, .ref sg, .ref ad, .ref rs, .null, .null, .int 0, .null, .int 0, .int 0, .null, .int 0, .null, .null, .null, .null, .null, .null, .null]))] H458 := hP
  have hD : va_D A [(h0, .inr (9, [.ref w, .ref sg, .ref ad, .ref rs, .null, .null, .int 0, .null, .int 0, .int 0, .null, .int 0, .null, .null, .null, .null, .null, .null, .null]))] := hD
  refine lv_aload_n hx hb dX9_init_25 rfl (lv_at hl 0 rfl) ?_
  refine lv_aload hx hb dX9_init_26 (lv_at hl 5 rfl) ?_
  refine va_putF (D := (dC, dI)) (ci := 9) (v := .ref ro) (ty := (.object RX6)) (C := RX9) (T := TX9) (N := 19) hx hb hts gX9 tyX9 tyX9_ok nmX9 hown hK hP hD hS 0 rfl rfl 4 (by decide) (hts _ u_356) (fun _ h9 => h9) rfl hin rfl (by decide +kernel) rfl rfl (Nat.le_of_ble_eq_true rfl) dX9_init_28 (fun H459 locs hP hD hS => ?_)
  have hP : va_P (dC, dI) vwCl [(h0, .inr (9, [.ref w, .ref sg, .ref ad, .ref rs, .ref ro, .null, .int 0, .null, .int 0, .int 0, .null, .int 0, .null, .null, .null, .null, .null, .null, .null]))] H459 := hP
  have hD : va_D A [(h0, .inr (9, [.ref w, .ref sg, .ref ad, .ref rs, .ref ro, .null, .int 0, .null, .int 0, .int 0, .null, .int 0, .null, .null, .null, .null, .null, .null, .null]))] := hD
  refine lv_aload_n hx hb dX9_init_31 rfl (lv_at hl 0 rfl) ?_
  refine va_new (ci := 2) (fs := [.null, .null, .int 0]) (C := RX2) (T := TX2) (N := 3) hx hb hts gX2 tyX2 tyX2_ok hown (hts _ u_293) (hts _ u_294) (hts _ u_11) hK hP hD hS hA rfl (fun j hj => by rcases (show j = 0 ∨ j = 1 ∨ j = 2 by omega) with rfl | rfl | rfl <;> rfl) (Nat.le_of_ble_eq_true rfl) (Nat.le_of_ble_eq_true rfl) dX9_init_32 (fun q460 H461 hP hD hS => ?_)
  have hP : va_P (dC, dI) vwCl [(h0, .inr (9, [.ref w, .ref sg, .ref ad, .ref rs, .ref ro, .null, .int 0, .null, .int 0, .int 0, .null, .int 0, .null, .null, .null, .null, .null, .null, .null])), (q460, .inr (2, [.null, .null, .int 0]))] H461 := hP
  have hD : va_D A [(h0, .inr (9, [.ref w, .ref sg, .ref ad, .ref rs, .ref ro, .null, .int 0, .null, .int 0, .int 0, .null, .int 0, .null, .null, .null, .null, .null, .null, .null])), (q460, .inr (2, [.null, .null, .int 0]))] := hD
  refine W.widen (k := 1) (n := 3) (Nat.le_of_ble_eq_true rfl) (Nat.le_of_ble_eq_true rfl) ?_
  refine lv_dup hx hb dX9_init_35 rfl ?_
  have hPc := hP.sub (ws' := [(q460, .inr (2, [.null, .null, .int 0]))]) [1] rfl
  have hDc := hD.sub (ws' := [(q460, .inr (2, [.null, .null, .int 0]))]) [1] (by decide) rfl
  have hKc := hK.sub (tys' := []) [] rfl
  have hFc := va_free (wc := [(q460, .inr (2, [.null, .null, .int 0]))]) hD hS hA [1] rfl
  refine va_callv (va_runI (As := []) (rest := [.ref q460, .ref h0]) ⟨hx, hb, hml, hown, hts⟩ (c_X2_init l dC dI H461.size q460) (cwI 0 hts (gC u_297) rfl rfl rfl (hts _ u_11) (hts _ u_295) (hts _ u_296) rfl (by decide +kernel) ⟨Nat.le_of_ble_eq_true rfl, Nat.le_of_ble_eq_true rfl⟩) ⟨gP_blind, gP_call hPc hKc hDc hE⟩ rfl rfl hl.1 rfl (lv_room (Nat.le_of_ble_eq_true rfl)) dX9_init_36 ⟨(Nat.le_of_ble_eq_true rfl), (Nat.le_of_ble_eq_true rfl)⟩) hS (fun q _ h => hFc q h) hFc (fun u9 t9 H462 locs ht hvm hw hB hz1 hk1 hS => ?_)
  obtain ⟨hP1, hK1, hD1⟩ := hB
  rw [ht] at hP1
  have hK1 := va_K.moved hvm.symm hK1
  obtain ⟨hP, hD⟩ := va_join (wr := [(h0, .inr (9, [.ref w, .ref sg, .ref ad, .ref rs, .ref ro, .null, .int 0, .null, .int 0, .int 0, .null, .int 0, .null, .null, .null, .null, .null, .null, .null]))]) (w1 := []) hP hD [1] [0] rfl rfl (by decide) (by decide) hk1 hFc hP1 hD1
  have hK := (hK.sub (tys' := []) [] rfl).app hK1
  have hK : va_K (dC, dI) vwCl [] s := hK
  have hP : va_P (dC, dI) vwCl [(h0, .inr (9, [.ref w, .ref sg, .ref ad, .ref rs, .ref ro, .null, .int 0, .null, .int 0, .int 0, .null, .int 0, .null, .null, .null, .null, .null, .null, .null]))] H462 := hP
  have hD : va_D A [(h0, .inr (9, [.ref w, .ref sg, .ref ad, .ref rs, .ref ro, .null, .int 0, .null, .int 0, .int 0, .null, .int 0, .null, .null, .null, .null, .null, .null, .null]))] := hD
  refine W.widen (k := 3) (n := 4099) (Nat.le_of_ble_eq_true rfl) (Nat.le_of_ble_eq_true rfl) ?_
  refine va_putF (D := (dC, dI)) (ci := 9) (v := .ref q460) (ty := (.object RX2)) (C := RX9) (T := TX9) (N := 19) hx hb hts gX9 tyX9 tyX9_ok nmX9 hown hK hP hD hS 0 rfl rfl 5 (by decide) (hts _ u_357) (fun _ h9 => h9) rfl hin rfl (by decide +kernel) rfl rfl (Nat.le_of_ble_eq_true rfl) dX9_init_39 (fun H464 locs hP hD hS => ?_)
  have hP : va_P (dC, dI) vwCl [(h0, .inr (9, [.ref w, .ref sg, .ref ad, .ref rs, .ref ro, .ref q460, .int 0, .null, .int 0, .int 0, .null, .int 0, .null, .null, .null, .null, .null, .null, .null]))] H464 := hP
  have hD : va_D A [(h0, .inr (9, [.ref w, .ref sg, .ref ad, .ref rs, .ref ro, .ref q460, .int 0, .null, .int 0, .int 0, .null, .int 0, .null, .null, .null, .null, .null, .null, .null]))] := hD
  refine lv_aload_n hx hb dX9_init_42 rfl (lv_at hl 0 rfl) ?_
  refine lv_bipush (v := 65) hx hb dX9_init_43 (by decide) ?_
  refine va_newq (N' := 65) hx hb hown (hts _ u_310) hE.2.2.2.1 hK hP hD hS hA (by decide) (by decide) (Nat.le_of_ble_eq_true rfl) (Nat.le_of_ble_eq_true rfl) (Nat.le_of_ble_eq_true rfl) dX9_init_45 (fun q465 cA466 H467 hK hP hD hS => ?_)
  refine W.widen (k := 4) (n := 4164) (Nat.le_of_ble_eq_true rfl) (Nat.le_of_ble_eq_true rfl) ?_
  have hK : va_K (dC, dI) vwCl [(cA466, .object RX1)] s := hK
  have hP : va_P (dC, dI) vwCl [(h0, .inr (9, [.ref w, .ref sg, .ref ad, .ref rs, .ref ro, .ref q460, .int 0, .null, .int 0, .int 0, .null, .int 0, .null, .null, .null, .null, .null, .null, .null])), (q465, .inl (cA466, 65, .inr (.inr (.inr (.inr (fun _ => none))))))] H467 := hP
  have hD : va_D A [(h0, .inr (9, [.ref w, .ref sg, .ref ad, .ref rs, .ref ro, .ref q460, .int 0, .null, .int 0, .int 0, .null, .int 0, .null, .null, .null, .null, .null, .null, .null])), (q465, .inl (cA466, 65, .inr (.inr (.inr (.inr (fun _ => none))))))] := hD
  refine va_putF (D := (dC, dI)) (ci := 9) (v := .ref q465) (ty := (.array (.object RX1))) (C := RX9) (T := TX9) (N := 19) hx hb hts gX9 tyX9 tyX9_ok nmX9 hown hK hP hD hS 0 rfl rfl 7 (by decide) (hts _ u_360) (fun _ h9 => h9) rfl hin rfl (by decide +kernel) rfl rfl (Nat.le_of_ble_eq_true rfl) dX9_init_48 (fun H468 locs hP hD hS => ?_)
  have hP : va_P (dC, dI) vwCl [(h0, .inr (9, [.ref w, .ref sg, .ref ad, .ref rs, .ref ro, .ref q460, .int 0, .ref q465, .int 0, .int 0, .null, .int 0, .null, .null, .null, .null, .null, .null, .null])), (q465, .inl (cA466, 65, .inr (.inr (.inr (.inr (fun _ => none))))))] H468 := hP
  have hD : va_D A [(h0, .inr (9, [.ref w, .ref sg, .ref ad, .ref rs, .ref ro, .ref q460, .int 0, .ref q465, .int 0, .int 0, .null, .int 0, .null, .null, .null, .null, .null, .null, .null])), (q465, .inl (cA466, 65, .inr (.inr (.inr (.inr (fun _ => none))))))] := hD
  refine lv_iconst (v := 0) hx hb dX9_init_51 (by decide) ?_
  refine lv_istore (lv' := [(6, .int 0), (0, .ref h0), (1, .ref w), (2, .ref sg), (3, .ref ad), (4, .ref rs), (5, .ref ro)]) hx hb dX9_init_52 hl (by decide) rfl (fun ls hl => ?_)
  refine lp_frames (c0 := 4) (s0 := 4164) (F := [.ref w, .ref sg, .ref ad, .ref rs, .ref ro, .ref q460, .int 0, .ref q465, .int 0, .int 0, .null, .int 0, .null, .null, .null, .null, .null, .null, .null]) rfl hx hb hml hown hts hE hA hK (Nat.le_of_ble_eq_true rfl) (Nat.le_of_ble_eq_true rfl) (Nat.le_of_ble_eq_true rfl) (Nat.le_of_ble_eq_true rfl) (fun f469 H470 locs hP hD hS ls hl => ?_) 66 0 0 (fun _ => none) (Nat.zero_le 65) (by omega) nI_0.symm _ _ hP hD hS ls (lv_sub hl [1, 2, 3, 4, 5, 6, 0] rfl)
  have hP : va_P (dC, dI) vwCl [(h0, .inr (9, [.ref w, .ref sg, .ref ad, .ref rs, .ref ro, .ref q460, .int 0, .ref q465, .int 0, .int 0, .null, .int 0, .null, .null, .null, .null, .null, .null, .null])), (q465, .inl (cA466, 65, .inr (.inr (.inr (.inr f469)))))] H470 := hP
  have hD : va_D A [(h0, .inr (9, [.ref w, .ref sg, .ref ad, .ref rs, .ref ro, .ref q460, .int 0, .ref q465, .int 0, .int 0, .null, .int 0, .null, .null, .null, .null, .null, .null, .null])), (q465, .inl (cA466, 65, .inr (.inr (.inr (.inr f469)))))] := hD
  refine W.widen (k := 69) (n := 4684) (Nat.le_of_ble_eq_true rfl) (Nat.le_of_ble_eq_true rfl) ?_
  refine lv_aload_n hx hb dX9_init_81 rfl (lv_at hl 0 rfl) ?_
  refine va_new (ci := 1) (fs := [.int 0, .int 0, .int 0, .int 0, .int 0, .int 0, .int 0, .int 0]) (C := RX1) (T := TX1) (N := 8) hx hb hts gX1 tyX1 tyX1_ok hown (hts _ u_310) (hts _ u_312) (hts _ u_12) hK hP hD hS hA rfl (fun j hj => by rcases (show j = 0 ∨ j = 1 ∨ j = 2 ∨ j = 3 ∨ j = 4 ∨ j = 5 ∨ j = 6 ∨ j = 7 by omega) with rfl | rfl | rfl | rfl | rfl | rfl | rfl | rfl <;> rfl) (Nat.le_of_ble_eq_true rfl) (Nat.le_of_ble_eq_true rfl) dX9_init_82 (fun q471 H472 hP hD hS => ?_)
  have hP : va_P (dC, dI) vwCl [(h0, .inr (9, [.ref w, .ref sg, .ref ad, .ref rs, .ref ro, .ref q460, .int 0, .ref q465, .int 0, .int 0, .null, .int 0, .null, .null, .null, .null, .null, .null, .null])), (q465, .inl (cA466, 65, .inr (.inr (.inr (.inr f469))))), (q471, .inr (1, [.int 0, .int 0, .int 0, .int 0, .int 0, .int 0, .int 0, .int 0]))] H472 := hP
  have hD : va_D A [(h0, .inr (9, [.ref w, .ref sg, .ref ad, .ref rs, .ref ro, .ref q460, .int 0, .ref q465, .int 0, .int 0, .null, .int 0, .null, .null, .null, .null, .null, .null, .null])), (q465, .inl (cA466, 65, .inr (.inr (.inr (.inr f469))))), (q471, .inr (1, [.int 0, .int 0, .int 0, .int 0, .int 0, .int 0, .int 0, .int 0]))] := hD
  refine W.widen (k := 70) (n := 4692) (Nat.le_of_ble_eq_true rfl) (Nat.le_of_ble_eq_true rfl) ?_
  refine lv_dup hx hb dX9_init_85 rfl ?_
  have hPc := hP.sub (ws' := [(q471, .inr (1, [.int 0, .int 0, .int 0, .int 0, .int 0, .int 0, .int 0, .int 0]))]) [2] rfl
  have hDc := hD.sub (ws' := [(q471, .inr (1, [.int 0, .int 0, .int 0, .int 0, .int 0, .int 0, .int 0, .int 0]))]) [2] (by decide) rfl
  have hKc := hK.sub (tys' := []) [] rfl
  have hFc := va_free (wc := [(q471, .inr (1, [.int 0, .int 0, .int 0, .int 0, .int 0, .int 0, .int 0, .int 0]))]) hD hS hA [2] rfl
  refine va_callv (va_runIN (As := []) (rest := [.ref q471, .ref h0]) ⟨hx, hb, hml, hown, hts⟩ (c_X1_init l dC dI H472.size q471) ⟨va_cnB 0 hts (gC u_315) rfl rfl rfl (hE.1 _ n_7) (hts _ u_12) (by decide +kernel) ⟨Nat.le_of_ble_eq_true rfl, Nat.le_of_ble_eq_true rfl⟩, rfl, hts _ u_314⟩ ⟨gP_blind, gP_call hPc hKc hDc hE⟩ rfl rfl hl.1 rfl (lv_room (Nat.le_of_ble_eq_true rfl)) dX9_init_86 ⟨(Nat.le_of_ble_eq_true rfl), (Nat.le_of_ble_eq_true rfl)⟩) hS (fun q _ h => hFc q h) hFc (fun u9 t9 H473 locs ht hvm hw hB hz1 hk1 hS => ?_)
  obtain ⟨g9475, hP1, hK1, hD1⟩ := hB
  rw [ht] at hP1
  have hK1 := va_K.moved hvm.symm hK1
  obtain ⟨hP, hD⟩ := va_join (wr := [(h0, .inr (9, [.ref w, .ref sg, .ref ad, .ref rs, .ref ro, .ref q460, .int 0, .ref q465, .int 0, .int 0, .null, .int 0, .null, .null, .null, .null, .null, .null, .null])), (q465, .inl (cA466, 65, .inr (.inr (.inr (.inr f469)))))]) (w1 := [(q471, .inr (1, [.int 0, .int 0, .int 0, .int 0, .int 0, .int 0, .int 0, .int 0]))]) hP hD [2] [0, 1] rfl rfl (by decide) (by decide) hk1 hFc hP1 hD1
  have hK := (hK.sub (tys' := [(cA466, .object RX1)]) [0] rfl).app hK1
  have hK : va_K (dC, dI) vwCl [(cA466, .object RX1)] s := hK
  have hP : va_P (dC, dI) vwCl [(h0, .inr (9, [.ref w, .ref sg, .ref ad, .ref rs, .ref ro, .ref q460, .int 0, .ref q465, .int 0, .int 0, .null, .int 0, .null, .null, .null, .null, .null, .null, .null])), (q465, .inl (cA466, 65, .inr (.inr (.inr (.inr f469))))), (q471, .inr (1, [.int 0, .int 0, .int 0, .int 0, .int 0, .int 0, .int 0, .int 0]))] H473 := hP
  have hD : va_D A [(h0, .inr (9, [.ref w, .ref sg, .ref ad, .ref rs, .ref ro, .ref q460, .int 0, .ref q465, .int 0, .int 0, .null, .int 0, .null, .null, .null, .null, .null, .null, .null])), (q465, .inl (cA466, 65, .inr (.inr (.inr (.inr f469))))), (q471, .inr (1, [.int 0, .int 0, .int 0, .int 0, .int 0, .int 0, .int 0, .int 0]))] := hD
  refine va_putF (D := (dC, dI)) (ci := 9) (v := .ref q471) (ty := (.object RX1)) (C := RX9) (T := TX9) (N := 19) hx hb hts gX9 tyX9 tyX9_ok nmX9 hown hK hP hD hS 0 rfl rfl 10 (by decide) (hts _ u_364) (fun _ h9 => h9) rfl hin rfl (by decide +kernel) rfl rfl (Nat.le_of_ble_eq_true rfl) dX9_init_89 (fun H476 locs hP hD hS => ?_)
  have hP : va_P (dC, dI) vwCl [(h0, .inr (9, [.ref w, .ref sg, .ref ad, .ref rs, .ref ro, .ref q460, .int 0, .ref q465, .int 0, .int 0, .ref q471, .int 0, .null, .null, .null, .null, .null, .null, .null])), (q465, .inl (cA466, 65, .inr (.inr (.inr (.inr f469))))), (q471, .inr (1, [.int 0, .int 0, .int 0, .int 0, .int 0, .int 0, .int 0, .int 0]))] H476 := hP
  have hD : va_D A [(h0, .inr (9, [.ref w, .ref sg, .ref ad, .ref rs, .ref ro, .ref q460, .int 0, .ref q465, .int 0, .int 0, .ref q471, .int 0, .null, .null, .null, .null, .null, .null, .null])), (q465, .inl (cA466, 65, .inr (.inr (.inr (.inr f469))))), (q471, .inr (1, [.int 0, .int 0, .int 0, .int 0, .int 0, .int 0, .int 0, .int 0]))] := hD
  refine lv_aload_n hx hb dX9_init_92 rfl (lv_at hl 0 rfl) ?_
  refine lv_bipush (v := 60) hx hb dX9_init_93 (by decide) ?_
  refine va_newa (atype := .int) (ty := .int) (N' := 60) (a0 := (60, .inl (fun _ => 0))) hx hb (hts _ u_80) rfl hK hP hD hS hA (fun _ => rfl) (by decide) (by decide) (Nat.le_of_ble_eq_true rfl) (Nat.le_of_ble_eq_true rfl) (Nat.le_of_ble_eq_true rfl) dX9_init_95 (fun q477 cA478 H479 hK hP hD hS => ?_)
  refine W.widen (k := 71) (n := 4752) (Nat.le_of_ble_eq_true rfl) (Nat.le_of_ble_eq_true rfl) ?_
  have hK : va_K (dC, dI) vwCl [(cA466, .object RX1), (cA478, .int)] s := hK
  have hP : va_P (dC, dI) vwCl [(h0, .inr (9, [.ref w, .ref sg, .ref ad, .ref rs, .ref ro, .ref q460, .int 0, .ref q465, .int 0, .int 0, .ref q471, .int 0, .null, .null, .null, .null, .null, .null, .null])), (q465, .inl (cA466, 65, .inr (.inr (.inr (.inr f469))))), (q471, .inr (1, [.int 0, .int 0, .int 0, .int 0, .int 0, .int 0, .int 0, .int 0])), (q477, .inl (cA478, 60, .inl (fun _ => 0)))] H479 := hP
  have hD : va_D A [(h0, .inr (9, [.ref w, .ref sg, .ref ad, .ref rs, .ref ro, .ref q460, .int 0, .ref q465, .int 0, .int 0, .ref q471, .int 0, .null, .null, .null, .null, .null, .null, .null])), (q465, .inl (cA466, 65, .inr (.inr (.inr (.inr f469))))), (q471, .inr (1, [.int 0, .int 0, .int 0, .int 0, .int 0, .int 0, .int 0, .int 0])), (q477, .inl (cA478, 60, .inl (fun _ => 0)))] := hD
  refine va_putF (D := (dC, dI)) (ci := 9) (v := .ref q477) (ty := (.array .int)) (C := RX9) (T := TX9) (N := 19) hx hb hts gX9 tyX9 tyX9_ok nmX9 hown hK hP hD hS 0 rfl rfl 12 (by decide) (hts _ u_367) (fun _ h9 => h9) rfl hin rfl (by decide +kernel) rfl rfl (Nat.le_of_ble_eq_true rfl) dX9_init_97 (fun H480 locs hP hD hS => ?_)
  have hP : va_P (dC, dI) vwCl [(h0, .inr (9, [.ref w, .ref sg, .ref ad, .ref rs, .ref ro, .ref q460, .int 0, .ref q465, .int 0, .int 0, .ref q471, .int 0, .ref q477, .null, .null, .null, .null, .null, .null])), (q465, .inl (cA466, 65, .inr (.inr (.inr (.inr f469))))), (q471, .inr (1, [.int 0, .int 0, .int 0, .int 0, .int 0, .int 0, .int 0, .int 0])), (q477, .inl (cA478, 60, .inl (fun _ => 0)))] H480 := hP
  have hD : va_D A [(h0, .inr (9, [.ref w, .ref sg, .ref ad, .ref rs, .ref ro, .ref q460, .int 0, .ref q465, .int 0, .int 0, .ref q471, .int 0, .ref q477, .null, .null, .null, .null, .null, .null])), (q465, .inl (cA466, 65, .inr (.inr (.inr (.inr f469))))), (q471, .inr (1, [.int 0, .int 0, .int 0, .int 0, .int 0, .int 0, .int 0, .int 0])), (q477, .inl (cA478, 60, .inl (fun _ => 0)))] := hD
  refine lv_aload_n hx hb dX9_init_100 rfl (lv_at hl 0 rfl) ?_
  refine lv_bipush (v := 60) hx hb dX9_init_101 (by decide) ?_
  refine va_newa (atype := .int) (ty := .int) (N' := 60) (a0 := (60, .inl (fun _ => 0))) hx hb (hts _ u_80) rfl hK hP hD hS hA (fun _ => rfl) (by decide) (by decide) (Nat.le_of_ble_eq_true rfl) (Nat.le_of_ble_eq_true rfl) (Nat.le_of_ble_eq_true rfl) dX9_init_103 (fun q481 cA482 H483 hK hP hD hS => ?_)
  refine W.widen (k := 72) (n := 4812) (Nat.le_of_ble_eq_true rfl) (Nat.le_of_ble_eq_true rfl) ?_
  have hK : va_K (dC, dI) vwCl [(cA466, .object RX1), (cA478, .int), (cA482, .int)] s := hK
  have hP : va_P (dC, dI) vwCl [(h0, .inr (9, [.ref w, .ref sg, .ref ad, .ref rs, .ref ro, .ref q460, .int 0, .ref q465, .int 0, .int 0, .ref q471, .int 0, .ref q477, .null, .null, .null, .null, .null, .null])), (q465, .inl (cA466, 65, .inr (.inr (.inr (.inr f469))))), (q471, .inr (1, [.int 0, .int 0, .int 0, .int 0, .int 0, .int 0, .int 0, .int 0])), (q477, .inl (cA478, 60, .inl (fun _ => 0))), (q481, .inl (cA482, 60, .inl (fun _ => 0)))] H483 := hP
  have hD : va_D A [(h0, .inr (9, [.ref w, .ref sg, .ref ad, .ref rs, .ref ro, .ref q460, .int 0, .ref q465, .int 0, .int 0, .ref q471, .int 0, .ref q477, .null, .null, .null, .null, .null, .null])), (q465, .inl (cA466, 65, .inr (.inr (.inr (.inr f469))))), (q471, .inr (1, [.int 0, .int 0, .int 0, .int 0, .int 0, .int 0, .int 0, .int 0])), (q477, .inl (cA478, 60, .inl (fun _ => 0))), (q481, .inl (cA482, 60, .inl (fun _ => 0)))] := hD
  have hP := hP.sub (ws' := [(h0, .inr (9, [.ref w, .ref sg, .ref ad, .ref rs, .ref ro, .ref q460, .int 0, .ref q465, .int 0, .int 0, .ref q471, .int 0, .ref q477, .null, .null, .null, .null, .null, .null])), (q465, .inl (cA466, 65, .inr (.inr (.inr (.inr f469))))), (q471, .inr (1, [.int 0, .int 0, .int 0, .int 0, .int 0, .int 0, .int 0, .int 0])), (q477, .inl (cA478, 60, .inl (fun _ => 0)))]) [0, 1, 2, 3] rfl
  have hD := hD.sub (ws' := [(h0, .inr (9, [.ref w, .ref sg, .ref ad, .ref rs, .ref ro, .ref q460, .int 0, .ref q465, .int 0, .int 0, .ref q471, .int 0, .ref q477, .null, .null, .null, .null, .null, .null])), (q465, .inl (cA466, 65, .inr (.inr (.inr (.inr f469))))), (q471, .inr (1, [.int 0, .int 0, .int 0, .int 0, .int 0, .int 0, .int 0, .int 0])), (q477, .inl (cA478, 60, .inl (fun _ => 0)))]) [0, 1, 2, 3] (by decide) rfl
  have hK := hK.sub (tys' := [(cA466, .object RX1), (cA478, .int)]) [0, 1] rfl
  refine va_putF (D := (dC, dI)) (ci := 9) (v := .ref q481) (ty := (.array .int)) (C := RX9) (T := TX9) (N := 19) hx hb hts gX9 tyX9 tyX9_ok nmX9 hown hK hP hD hS 0 rfl rfl 13 (by decide) (hts _ u_368) (fun _ h9 => h9) rfl hin rfl (by decide +kernel) rfl rfl (Nat.le_of_ble_eq_true rfl) dX9_init_105 (fun H484 locs hP hD hS => ?_)
  have hP : va_P (dC, dI) vwCl [(h0, .inr (9, [.ref w, .ref sg, .ref ad, .ref rs, .ref ro, .ref q460, .int 0, .ref q465, .int 0, .int 0, .ref q471, .int 0, .ref q477, .ref q481, .null, .null, .null, .null, .null])), (q465, .inl (cA466, 65, .inr (.inr (.inr (.inr f469))))), (q471, .inr (1, [.int 0, .int 0, .int 0, .int 0, .int 0, .int 0, .int 0, .int 0])), (q477, .inl (cA478, 60, .inl (fun _ => 0)))] H484 := hP
  have hD : va_D A [(h0, .inr (9, [.ref w, .ref sg, .ref ad, .ref rs, .ref ro, .ref q460, .int 0, .ref q465, .int 0, .int 0, .ref q471, .int 0, .ref q477, .ref q481, .null, .null, .null, .null, .null])), (q465, .inl (cA466, 65, .inr (.inr (.inr (.inr f469))))), (q471, .inr (1, [.int 0, .int 0, .int 0, .int 0, .int 0, .int 0, .int 0, .int 0])), (q477, .inl (cA478, 60, .inl (fun _ => 0)))] := hD
  refine lv_aload_n hx hb dX9_init_108 rfl (lv_at hl 0 rfl) ?_
  refine lv_bipush (v := 60) hx hb dX9_init_109 (by decide) ?_
  refine va_newa (atype := .int) (ty := .int) (N' := 60) (a0 := (60, .inl (fun _ => 0))) hx hb (hts _ u_80) rfl hK hP hD hS hA (fun _ => rfl) (by decide) (by decide) (Nat.le_of_ble_eq_true rfl) (Nat.le_of_ble_eq_true rfl) (Nat.le_of_ble_eq_true rfl) dX9_init_111 (fun q485 cA486 H487 hK hP hD hS => ?_)
  refine W.widen (k := 73) (n := 4872) (Nat.le_of_ble_eq_true rfl) (Nat.le_of_ble_eq_true rfl) ?_
  have hK : va_K (dC, dI) vwCl [(cA466, .object RX1), (cA478, .int), (cA486, .int)] s := hK
  have hP : va_P (dC, dI) vwCl [(h0, .inr (9, [.ref w, .ref sg, .ref ad, .ref rs, .ref ro, .ref q460, .int 0, .ref q465, .int 0, .int 0, .ref q471, .int 0, .ref q477, .ref q481, .null, .null, .null, .null, .null])), (q465, .inl (cA466, 65, .inr (.inr (.inr (.inr f469))))), (q471, .inr (1, [.int 0, .int 0, .int 0, .int 0, .int 0, .int 0, .int 0, .int 0])), (q477, .inl (cA478, 60, .inl (fun _ => 0))), (q485, .inl (cA486, 60, .inl (fun _ => 0)))] H487 := hP
  have hD : va_D A [(h0, .inr (9, [.ref w, .ref sg, .ref ad, .ref rs, .ref ro, .ref q460, .int 0, .ref q465, .int 0, .int 0, .ref q471, .int 0, .ref q477, .ref q481, .null, .null, .null, .null, .null])), (q465, .inl (cA466, 65, .inr (.inr (.inr (.inr f469))))), (q471, .inr (1, [.int 0, .int 0, .int 0, .int 0, .int 0, .int 0, .int 0, .int 0])), (q477, .inl (cA478, 60, .inl (fun _ => 0))), (q485, .inl (cA486, 60, .inl (fun _ => 0)))] := hD
  refine va_putF (D := (dC, dI)) (ci := 9) (v := .ref q485) (ty := (.array .int)) (C := RX9) (T := TX9) (N := 19) hx hb hts gX9 tyX9 tyX9_ok nmX9 hown hK hP hD hS 0 rfl rfl 14 (by decide) (hts _ u_370) (fun _ h9 => h9) rfl hin rfl (by decide +kernel) rfl rfl (Nat.le_of_ble_eq_true rfl) dX9_init_113 (fun H488 locs hP hD hS => ?_)
  have hP : va_P (dC, dI) vwCl [(h0, .inr (9, [.ref w, .ref sg, .ref ad, .ref rs, .ref ro, .ref q460, .int 0, .ref q465, .int 0, .int 0, .ref q471, .int 0, .ref q477, .ref q481, .ref q485, .null, .null, .null, .null])), (q465, .inl (cA466, 65, .inr (.inr (.inr (.inr f469))))), (q471, .inr (1, [.int 0, .int 0, .int 0, .int 0, .int 0, .int 0, .int 0, .int 0])), (q477, .inl (cA478, 60, .inl (fun _ => 0))), (q485, .inl (cA486, 60, .inl (fun _ => 0)))] H488 := hP
  have hD : va_D A [(h0, .inr (9, [.ref w, .ref sg, .ref ad, .ref rs, .ref ro, .ref q460, .int 0, .ref q465, .int 0, .int 0, .ref q471, .int 0, .ref q477, .ref q481, .ref q485, .null, .null, .null, .null])), (q465, .inl (cA466, 65, .inr (.inr (.inr (.inr f469))))), (q471, .inr (1, [.int 0, .int 0, .int 0, .int 0, .int 0, .int 0, .int 0, .int 0])), (q477, .inl (cA478, 60, .inl (fun _ => 0))), (q485, .inl (cA486, 60, .inl (fun _ => 0)))] := hD
  refine lv_aload_n hx hb dX9_init_116 rfl (lv_at hl 0 rfl) ?_
  refine lv_bipush (v := 60) hx hb dX9_init_117 (by decide) ?_
  refine va_newa (atype := .int) (ty := .int) (N' := 60) (a0 := (60, .inl (fun _ => 0))) hx hb (hts _ u_80) rfl hK hP hD hS hA (fun _ => rfl) (by decide) (by decide) (Nat.le_of_ble_eq_true rfl) (Nat.le_of_ble_eq_true rfl) (Nat.le_of_ble_eq_true rfl) dX9_init_119 (fun q489 cA490 H491 hK hP hD hS => ?_)
  refine W.widen (k := 74) (n := 4932) (Nat.le_of_ble_eq_true rfl) (Nat.le_of_ble_eq_true rfl) ?_
  have hK : va_K (dC, dI) vwCl [(cA466, .object RX1), (cA478, .int), (cA486, .int), (cA490, .int)] s := hK
  have hP : va_P (dC, dI) vwCl [(h0, .inr (9, [.ref w, .ref sg, .ref ad, .ref rs, .ref ro, .ref q460, .int 0, .ref q465, .int 0, .int 0, .ref q471, .int 0, .ref q477, .ref q481, .ref q485, .null, .null, .null, .null])), (q465, .inl (cA466, 65, .inr (.inr (.inr (.inr f469))))), (q471, .inr (1, [.int 0, .int 0, .int 0, .int 0, .int 0, .int 0, .int 0, .int 0])), (q477, .inl (cA478, 60, .inl (fun _ => 0))), (q485, .inl (cA486, 60, .inl (fun _ => 0))), (q489, .inl (cA490, 60, .inl (fun _ => 0)))] H491 := hP
  have hD : va_D A [(h0, .inr (9, [.ref w, .ref sg, .ref ad, .ref rs, .ref ro, .ref q460, .int 0, .ref q465, .int 0, .int 0, .ref q471, .int 0, .ref q477, .ref q481, .ref q485, .null, .null, .null, .null])), (q465, .inl (cA466, 65, .inr (.inr (.inr (.inr f469))))), (q471, .inr (1, [.int 0, .int 0, .int 0, .int 0, .int 0, .int 0, .int 0, .int 0])), (q477, .inl (cA478, 60, .inl (fun _ => 0))), (q485, .inl (cA486, 60, .inl (fun _ => 0))), (q489, .inl (cA490, 60, .inl (fun _ => 0)))] := hD
  refine va_putF (D := (dC, dI)) (ci := 9) (v := .ref q489) (ty := (.array .int)) (C := RX9) (T := TX9) (N := 19) hx hb hts gX9 tyX9 tyX9_ok nmX9 hown hK hP hD hS 0 rfl rfl 15 (by decide) (hts _ u_372) (fun _ h9 => h9) rfl hin rfl (by decide +kernel) rfl rfl (Nat.le_of_ble_eq_true rfl) dX9_init_121 (fun H492 locs hP hD hS => ?_)
  have hP : va_P (dC, dI) vwCl [(h0, .inr (9, [.ref w, .ref sg, .ref ad, .ref rs, .ref ro, .ref q460, .int 0, .ref q465, .int 0, .int 0, .ref q471, .int 0, .ref q477, .ref q481, .ref q485, .ref q489, .null, .null, .null])), (q465, .inl (cA466, 65, .inr (.inr (.inr (.inr f469))))), (q471, .inr (1, [.int 0, .int 0, .int 0, .int 0, .int 0, .int 0, .int 0, .int 0])), (q477, .inl (cA478, 60, .inl (fun _ => 0))), (q485, .inl (cA486, 60, .inl (fun _ => 0))), (q489, .inl (cA490, 60, .inl (fun _ => 0)))] H492 := hP
  have hD : va_D A [(h0, .inr (9, [.ref w, .ref sg, .ref ad, .ref rs, .ref ro, .ref q460, .int 0, .ref q465, .int 0, .int 0, .ref q471, .int 0, .ref q477, .ref q481, .ref q485, .ref q489, .null, .null, .null])), (q465, .inl (cA466, 65, .inr (.inr (.inr (.inr f469))))), (q471, .inr (1, [.int 0, .int 0, .int 0, .int 0, .int 0, .int 0, .int 0, .int 0])), (q477, .inl (cA478, 60, .inl (fun _ => 0))), (q485, .inl (cA486, 60, .inl (fun _ => 0))), (q489, .inl (cA490, 60, .inl (fun _ => 0)))] := hD
  refine lv_aload_n hx hb dX9_init_124 rfl (lv_at hl 0 rfl) ?_
  refine lv_bipush (v := 60) hx hb dX9_init_125 (by decide) ?_
  refine va_newa (atype := .int) (ty := .int) (N' := 60) (a0 := (60, .inl (fun _ => 0))) hx hb (hts _ u_80) rfl hK hP hD hS hA (fun _ => rfl) (by decide) (by decide) (Nat.le_of_ble_eq_true rfl) (Nat.le_of_ble_eq_true rfl) (Nat.le_of_ble_eq_true rfl) dX9_init_127 (fun q493 cA494 H495 hK hP hD hS => ?_)
  refine W.widen (k := 75) (n := 4992) (Nat.le_of_ble_eq_true rfl) (Nat.le_of_ble_eq_true rfl) ?_
  have hK : va_K (dC, dI) vwCl [(cA466, .object RX1), (cA478, .int), (cA486, .int), (cA490, .int), (cA494, .int)] s := hK
  have hP : va_P (dC, dI) vwCl [(h0, .inr (9, [.ref w, .ref sg, .ref ad, .ref rs, .ref ro, .ref q460, .int 0, .ref q465, .int 0, .int 0, .ref q471, .int 0, .ref q477, .ref q481, .ref q485, .ref q489, .null, .null, .null])), (q465, .inl (cA466, 65, .inr (.inr (.inr (.inr f469))))), (q471, .inr (1, [.int 0, .int 0, .int 0, .int 0, .int 0, .int 0, .int 0, .int 0])), (q477, .inl (cA478, 60, .inl (fun _ => 0))), (q485, .inl (cA486, 60, .inl (fun _ => 0))), (q489, .inl (cA490, 60, .inl (fun _ => 0))), (q493, .inl (cA494, 60, .inl (fun _ => 0)))] H495 := hP
  have hD : va_D A [(h0, .inr (9, [.ref w, .ref sg, .ref ad, .ref rs, .ref ro, .ref q460, .int 0, .ref q465, .int 0, .int 0, .ref q471, .int 0, .ref q477, .ref q481, .ref q485, .ref q489, .null, .null, .null])), (q465, .inl (cA466, 65, .inr (.inr (.inr (.inr f469))))), (q471, .inr (1, [.int 0, .int 0, .int 0, .int 0, .int 0, .int 0, .int 0, .int 0])), (q477, .inl (cA478, 60, .inl (fun _ => 0))), (q485, .inl (cA486, 60, .inl (fun _ => 0))), (q489, .inl (cA490, 60, .inl (fun _ => 0))), (q493, .inl (cA494, 60, .inl (fun _ => 0)))] := hD
  have hP := hP.sub (ws' := [(h0, .inr (9, [.ref w, .ref sg, .ref ad, .ref rs, .ref ro, .ref q460, .int 0, .ref q465, .int 0, .int 0, .ref q471, .int 0, .ref q477, .ref q481, .ref q485, .ref q489, .null, .null, .null])), (q465, .inl (cA466, 65, .inr (.inr (.inr (.inr f469))))), (q471, .inr (1, [.int 0, .int 0, .int 0, .int 0, .int 0, .int 0, .int 0, .int 0])), (q477, .inl (cA478, 60, .inl (fun _ => 0))), (q485, .inl (cA486, 60, .inl (fun _ => 0))), (q489, .inl (cA490, 60, .inl (fun _ => 0)))]) [0, 1, 2, 3, 4, 5] rfl
  have hD := hD.sub (ws' := [(h0, .inr (9, [.ref w, .ref sg, .ref ad, .ref rs, .ref ro, .ref q460, .int 0, .ref q465, .int 0, .int 0, .ref q471, .int 0, .ref q477, .ref q481, .ref q485, .ref q489, .null, .null, .null])), (q465, .inl (cA466, 65, .inr (.inr (.inr (.inr f469))))), (q471, .inr (1, [.int 0, .int 0, .int 0, .int 0, .int 0, .int 0, .int 0, .int 0])), (q477, .inl (cA478, 60, .inl (fun _ => 0))), (q485, .inl (cA486, 60, .inl (fun _ => 0))), (q489, .inl (cA490, 60, .inl (fun _ => 0)))]) [0, 1, 2, 3, 4, 5] (by decide) rfl
  have hK := hK.sub (tys' := [(cA466, .object RX1), (cA478, .int), (cA486, .int), (cA490, .int)]) [0, 1, 2, 3] rfl
  refine va_putF (D := (dC, dI)) (ci := 9) (v := .ref q493) (ty := (.array .int)) (C := RX9) (T := TX9) (N := 19) hx hb hts gX9 tyX9 tyX9_ok nmX9 hown hK hP hD hS 0 rfl rfl 16 (by decide) (hts _ u_374) (fun _ h9 => h9) rfl hin rfl (by decide +kernel) rfl rfl (Nat.le_of_ble_eq_true rfl) dX9_init_129 (fun H496 locs hP hD hS => ?_)
  have hP : va_P (dC, dI) vwCl [(h0, .inr (9, [.ref w, .ref sg, .ref ad, .ref rs, .ref ro, .ref q460, .int 0, .ref q465, .int 0, .int 0, .ref q471, .int 0, .ref q477, .ref q481, .ref q485, .ref q489, .ref q493, .null, .null])), (q465, .inl (cA466, 65, .inr (.inr (.inr (.inr f469))))), (q471, .inr (1, [.int 0, .int 0, .int 0, .int 0, .int 0, .int 0, .int 0, .int 0])), (q477, .inl (cA478, 60, .inl (fun _ => 0))), (q485, .inl (cA486, 60, .inl (fun _ => 0))), (q489, .inl (cA490, 60, .inl (fun _ => 0)))] H496 := hP
  have hD : va_D A [(h0, .inr (9, [.ref w, .ref sg, .ref ad, .ref rs, .ref ro, .ref q460, .int 0, .ref q465, .int 0, .int 0, .ref q471, .int 0, .ref q477, .ref q481, .ref q485, .ref q489, .ref q493, .null, .null])), (q465, .inl (cA466, 65, .inr (.inr (.inr (.inr f469))))), (q471, .inr (1, [.int 0, .int 0, .int 0, .int 0, .int 0, .int 0, .int 0, .int 0])), (q477, .inl (cA478, 60, .inl (fun _ => 0))), (q485, .inl (cA486, 60, .inl (fun _ => 0))), (q489, .inl (cA490, 60, .inl (fun _ => 0)))] := hD
  refine lv_aload_n hx hb dX9_init_132 rfl (lv_at hl 0 rfl) ?_
  refine va_get (D := (dC, dI)) (ci := 9) (v := .ref q485) (C := RX9) (T := TX9) (N := 19) hx hb hts gX9 hown hK hP 0 rfl rfl 14 (by decide) (hts _ u_370) (fun _ h9 => h9) rfl dX9_init_133 ?_
  refine lv_iconst (v := (-1)) hx hb dX9_init_136 (by decide) ?_
  have hPc := hP.sub (ws' := [(q485, .inl (cA486, 60, .inl (fun _ => 0)))]) [4] rfl
  have hDc := hD.sub (ws' := [(q485, .inl (cA486, 60, .inl (fun _ => 0)))]) [4] (by decide) rfl
  have hKc := hK.sub (tys' := [(cA486, .int)]) [2] rfl
  have hFc := va_free (wc := [(q485, .inl (cA486, 60, .inl (fun _ => 0)))]) hD hS hA [4] rfl
  refine va_callv (va_runS (As := [.ref q485, .int (-1)]) (rest := []) ⟨hx, hb, hml, hown, hts⟩ (c_J7_fill_53178 l dC dI H496.size q485 cA486 60 (by decide) (fun _ => 0) (-1)) (va_cwS 2 hts (gS u_350 u_38 u_3 u_39) rfl rfl rfl (by decide +kernel) ⟨Nat.le_of_ble_eq_true rfl, Nat.le_of_ble_eq_true rfl⟩) ⟨gP_blind, gP_call hPc hKc hDc hE⟩ rfl rfl hl.1 rfl (lv_room (Nat.le_of_ble_eq_true rfl)) dX9_init_137 ⟨(Nat.le_of_ble_eq_true rfl), (Nat.le_of_ble_eq_true rfl)⟩) hS (fun q _ h => hFc q h) hFc (fun u9 t9 H497 locs ht hvm hw hB hz1 hk1 hS => ?_)
  obtain ⟨f2499, hP1, hK1, hD1⟩ := hB
  rw [ht] at hP1
  have hK1 := va_K.moved hvm.symm hK1
  obtain ⟨hP, hD⟩ := va_join (wr := [(h0, .inr (9, [.ref w, .ref sg, .ref ad, .ref rs, .ref ro, .ref q460, .int 0, .ref q465, .int 0, .int 0, .ref q471, .int 0, .ref q477, .ref q481, .ref q485, .ref q489, .ref q493, .null, .null])), (q465, .inl (cA466, 65, .inr (.inr (.inr (.inr f469))))), (q471, .inr (1, [.int 0, .int 0, .int 0, .int 0, .int 0, .int 0, .int 0, .int 0])), (q477, .inl (cA478, 60, .inl (fun _ => 0))), (q489, .inl (cA490, 60, .inl (fun _ => 0)))]) (w1 := [(q485, .inl (cA486, 60, .inl f2499))]) hP hD [4] [0, 1, 2, 3, 5] rfl rfl (by decide) (by decide) hk1 hFc hP1 hD1
  have hK := (hK.sub (tys' := [(cA466, .object RX1), (cA478, .int), (cA490, .int)]) [0, 1, 3] rfl).app hK1
  have hK : va_K (dC, dI) vwCl [(cA466, .object RX1), (cA478, .int), (cA490, .int), (cA486, .int)] s := hK
  have hP : va_P (dC, dI) vwCl [(h0, .inr (9, [.ref w, .ref sg, .ref ad, .ref rs, .ref ro, .ref q460, .int 0, .ref q465, .int 0, .int 0, .ref q471, .int 0, .ref q477, .ref q481, .ref q485, .ref q489, .ref q493, .null, .null])), (q465, .inl (cA466, 65, .inr (.inr (.inr (.inr f469))))), (q471, .inr (1, [.int 0, .int 0, .int 0, .int 0, .int 0, .int 0, .int 0, .int 0])), (q477, .inl (cA478, 60, .inl (fun _ => 0))), (q489, .inl (cA490, 60, .inl (fun _ => 0))), (q485, .inl (cA486, 60, .inl f2499))] H497 := hP
  have hD : va_D A [(h0, .inr (9, [.ref w, .ref sg, .ref ad, .ref rs, .ref ro, .ref q460, .int 0, .ref q465, .int 0, .int 0, .ref q471, .int 0, .ref q477, .ref q481, .ref q485, .ref q489, .ref q493, .null, .null])), (q465, .inl (cA466, 65, .inr (.inr (.inr (.inr f469))))), (q471, .inr (1, [.int 0, .int 0, .int 0, .int 0, .int 0, .int 0, .int 0, .int 0])), (q477, .inl (cA478, 60, .inl (fun _ => 0))), (q489, .inl (cA490, 60, .inl (fun _ => 0))), (q485, .inl (cA486, 60, .inl f2499))] := hD
  refine lv_aload_n hx hb dX9_init_140 rfl (lv_at hl 0 rfl) ?_
  refine va_get (D := (dC, dI)) (ci := 9) (v := .ref q489) (C := RX9) (T := TX9) (N := 19) hx hb hts gX9 hown hK hP 0 rfl rfl 15 (by decide) (hts _ u_372) (fun _ h9 => h9) rfl dX9_init_141 ?_
  refine lv_iconst (v := (-1)) hx hb dX9_init_144 (by decide) ?_
  have hPc := hP.sub (ws' := [(q489, .inl (cA490, 60, .inl (fun _ => 0)))]) [4] rfl
  have hDc := hD.sub (ws' := [(q489, .inl (cA490, 60, .inl (fun _ => 0)))]) [4] (by decide) rfl
  have hKc := hK.sub (tys' := [(cA490, .int)]) [2] rfl
  have hFc := va_free (wc := [(q489, .inl (cA490, 60, .inl (fun _ => 0)))]) hD hS hA [4] rfl
  refine va_callv (va_runS (As := [.ref q489, .int (-1)]) (rest := []) ⟨hx, hb, hml, hown, hts⟩ (c_J7_fill_53178 l dC dI H497.size q489 cA490 60 (by decide) (fun _ => 0) (-1)) (va_cwS 2 hts (gS u_350 u_38 u_3 u_39) rfl rfl rfl (by decide +kernel) ⟨Nat.le_of_ble_eq_true rfl, Nat.le_of_ble_eq_true rfl⟩) ⟨gP_blind, gP_call hPc hKc hDc hE⟩ rfl rfl hl.1 rfl (lv_room (Nat.le_of_ble_eq_true rfl)) dX9_init_145 ⟨(Nat.le_of_ble_eq_true rfl), (Nat.le_of_ble_eq_true rfl)⟩) hS (fun q _ h => hFc q h) hFc (fun u9 t9 H500 locs ht hvm hw hB hz1 hk1 hS => ?_)
  obtain ⟨f2502, hP1, hK1, hD1⟩ := hB
  rw [ht] at hP1
  have hK1 := va_K.moved hvm.symm hK1
  obtain ⟨hP, hD⟩ := va_join (wr := [(h0, .inr (9, [.ref w, .ref sg, .ref ad, .ref rs, .ref ro, .ref q460, .int 0, .ref q465, .int 0, .int 0, .ref q471, .int 0, .ref q477, .ref q481, .ref q485, .ref q489, .ref q493, .null, .null])), (q465, .inl (cA466, 65, .inr (.inr (.inr (.inr f469))))), (q471, .inr (1, [.int 0, .int 0, .int 0, .int 0, .int 0, .int 0, .int 0, .int 0])), (q477, .inl (cA478, 60, .inl (fun _ => 0))), (q485, .inl (cA486, 60, .inl f2499))]) (w1 := [(q489, .inl (cA490, 60, .inl f2502))]) hP hD [4] [0, 1, 2, 3, 5] rfl rfl (by decide) (by decide) hk1 hFc hP1 hD1
  have hK := (hK.sub (tys' := [(cA466, .object RX1), (cA478, .int), (cA486, .int)]) [0, 1, 3] rfl).app hK1
  have hK : va_K (dC, dI) vwCl [(cA466, .object RX1), (cA478, .int), (cA486, .int), (cA490, .int)] s := hK
  have hP : va_P (dC, dI) vwCl [(h0, .inr (9, [.ref w, .ref sg, .ref ad, .ref rs, .ref ro, .ref q460, .int 0, .ref q465, .int 0, .int 0, .ref q471, .int 0, .ref q477, .ref q481, .ref q485, .ref q489, .ref q493, .null, .null])), (q465, .inl (cA466, 65, .inr (.inr (.inr (.inr f469))))), (q471, .inr (1, [.int 0, .int 0, .int 0, .int 0, .int 0, .int 0, .int 0, .int 0])), (q477, .inl (cA478, 60, .inl (fun _ => 0))), (q485, .inl (cA486, 60, .inl f2499)), (q489, .inl (cA490, 60, .inl f2502))] H500 := hP
  have hD : va_D A [(h0, .inr (9, [.ref w, .ref sg, .ref ad, .ref rs, .ref ro, .ref q460, .int 0, .ref q465, .int 0, .int 0, .ref q471, .int 0, .ref q477, .ref q481, .ref q485, .ref q489, .ref q493, .null, .null])), (q465, .inl (cA466, 65, .inr (.inr (.inr (.inr f469))))), (q471, .inr (1, [.int 0, .int 0, .int 0, .int 0, .int 0, .int 0, .int 0, .int 0])), (q477, .inl (cA478, 60, .inl (fun _ => 0))), (q485, .inl (cA486, 60, .inl f2499)), (q489, .inl (cA490, 60, .inl f2502))] := hD
  have hP := hP.sub (ws' := [(h0, .inr (9, [.ref w, .ref sg, .ref ad, .ref rs, .ref ro, .ref q460, .int 0, .ref q465, .int 0, .int 0, .ref q471, .int 0, .ref q477, .ref q481, .ref q485, .ref q489, .ref q493, .null, .null])), (q477, .inl (cA478, 60, .inl (fun _ => 0)))]) [0, 3] rfl
  have hD := hD.sub (ws' := [(h0, .inr (9, [.ref w, .ref sg, .ref ad, .ref rs, .ref ro, .ref q460, .int 0, .ref q465, .int 0, .int 0, .ref q471, .int 0, .ref q477, .ref q481, .ref q485, .ref q489, .ref q493, .null, .null])), (q477, .inl (cA478, 60, .inl (fun _ => 0)))]) [0, 3] (by decide) rfl
  have hK := hK.sub (tys' := [(cA478, .int)]) [1] rfl
  refine lv_aload_n hx hb dX9_init_148 rfl (lv_at hl 0 rfl) ?_
  refine lv_bipush (v := 10) hx hb dX9_init_149 (by decide) ?_
  refine lv_bipush (v := 40) hx hb dX9_init_151 (by decide) ?_
  refine va_mna (X := [(h0, .inr (9, [.ref w, .ref sg, .ref ad, .ref rs, .ref ro, .ref q460, .int 0, .ref q465, .int 0, .int 0, .ref q471, .int 0, .ref q477, .ref q481, .ref q485, .ref q489, .ref q493, .null, .null])), (q477, .inl (cA478, 60, .inl (fun _ => 0)))]) (L := []) (f := fun _ => .inl (cA478, (0, .inl (fun _ => 0)))) (ty := .int) (cy := cA478) (N' := 10) (K' := 40) (z := (40, .inl (fun _ => 0))) hx hb hown (hts _ u_351) hE.2.2.2.2.1 (hts _ u_80) (hK.2 0 _ rfl).2 hK hP hD hS hA (by decide) (by decide) (by decide) (by decide) (Nat.le_of_ble_eq_true rfl) (Nat.le_of_ble_eq_true rfl) (Nat.le_of_ble_eq_true rfl) (by decide) (by decide) (Nat.le_of_ble_eq_true rfl) (Nat.le_of_ble_eq_true rfl) (mna_z 40) dX9_init_153 (fun q503 r504 cA505 H506 hr1 hr2 hK hP hD hS => ?_)
  rw [rows_eq] at hP hD
  have hK : va_K (dC, dI) vwCl [(cA478, .int), (cA505, .array .int)] s := hK
  have hP : va_P (dC, dI) vwCl [(h0, .inr (9, [.ref w, .ref sg, .ref ad, .ref rs, .ref ro, .ref q460, .int 0, .ref q465, .int 0, .int 0, .ref q471, .int 0, .ref q477, .ref q481, .ref q485, .ref q489, .ref q493, .null, .null])), (q477, .inl (cA478, 60, .inl (fun _ => 0))), (q503, .inl (cA505, 10, .inr (.inr (.inr (.inr (fun i => if i < 10 then some (r504 i) else none)))))), ((r504 0), .inl (cA478, 40, .inl (fun _ => 0))), ((r504 1), .inl (cA478, 40, .inl (fun _ => 0))), ((r504 2), .inl (cA478, 40, .inl (fun _ => 0))), ((r504 3), .inl (cA478, 40, .inl (fun _ => 0))), ((r504 4), .inl (cA478, 40, .inl (fun _ => 0))), ((r504 5), .inl (cA478, 40, .inl (fun _ => 0))), ((r504 6), .inl (cA478, 40, .inl (fun _ => 0))), ((r504 7), .inl (cA478, 40, .inl (fun _ => 0))), ((r504 8), .inl (cA478, 40, .inl (fun _ => 0))), ((r504 9), .inl (cA478, 40, .inl (fun _ => 0)))] H506 := hP
  have hD : va_D A [(h0, .inr (9, [.ref w, .ref sg, .ref ad, .ref rs, .ref ro, .ref q460, .int 0, .ref q465, .int 0, .int 0, .ref q471, .int 0, .ref q477, .ref q481, .ref q485, .ref q489, .ref q493, .null, .null])), (q477, .inl (cA478, 60, .inl (fun _ => 0))), (q503, .inl (cA505, 10, .inr (.inr (.inr (.inr (fun i => if i < 10 then some (r504 i) else none)))))), ((r504 0), .inl (cA478, 40, .inl (fun _ => 0))), ((r504 1), .inl (cA478, 40, .inl (fun _ => 0))), ((r504 2), .inl (cA478, 40, .inl (fun _ => 0))), ((r504 3), .inl (cA478, 40, .inl (fun _ => 0))), ((r504 4), .inl (cA478, 40, .inl (fun _ => 0))), ((r504 5), .inl (cA478, 40, .inl (fun _ => 0))), ((r504 6), .inl (cA478, 40, .inl (fun _ => 0))), ((r504 7), .inl (cA478, 40, .inl (fun _ => 0))), ((r504 8), .inl (cA478, 40, .inl (fun _ => 0))), ((r504 9), .inl (cA478, 40, .inl (fun _ => 0)))] := hD
  refine W.widen (k := 86) (n := 5402) (Nat.le_of_ble_eq_true rfl) (Nat.le_of_ble_eq_true rfl) ?_
  refine va_putF (D := (dC, dI)) (ci := 9) (v := .ref q503) (ty := (.array (.array .int))) (C := RX9) (T := TX9) (N := 19) hx hb hts gX9 tyX9 tyX9_ok nmX9 hown hK hP hD hS 0 rfl rfl 17 (by decide) (hts _ u_375) (fun _ h9 => h9) rfl hin rfl (by decide +kernel) rfl rfl (Nat.le_of_ble_eq_true rfl) dX9_init_157 (fun H507 locs hP hD hS => ?_)
  have hP : va_P (dC, dI) vwCl [(h0, .inr (9, [.ref w, .ref sg, .ref ad, .ref rs, .ref ro, .ref q460, .int 0, .ref q465, .int 0, .int 0, .ref q471, .int 0, .ref q477, .ref q481, .ref q485, .ref q489, .ref q493, .ref q503, .null])), (q477, .inl (cA478, 60, .inl (fun _ => 0))), (q503, .inl (cA505, 10, .inr (.inr (.inr (.inr (fun i => if i < 10 then some (r504 i) else none)))))), ((r504 0), .inl (cA478, 40, .inl (fun _ => 0))), ((r504 1), .inl (cA478, 40, .inl (fun _ => 0))), ((r504 2), .inl (cA478, 40, .inl (fun _ => 0))), ((r504 3), .inl (cA478, 40, .inl (fun _ => 0))), ((r504 4), .inl (cA478, 40, .inl (fun _ => 0))), ((r504 5), .inl (cA478, 40, .inl (fun _ => 0))), ((r504 6), .inl (cA478, 40, .inl (fun _ => 0))), ((r504 7), .inl (cA478, 40, .inl (fun _ => 0))), ((r504 8), .inl (cA478, 40, .inl (fun _ => 0))), ((r504 9), .inl (cA478, 40, .inl (fun _ => 0)))] H507 := hP
  have hD : va_D A [(h0, .inr (9, [.ref w, .ref sg, .ref ad, .ref rs, .ref ro, .ref q460, .int 0, .ref q465, .int 0, .int 0, .ref q471, .int 0, .ref q477, .ref q481, .ref q485, .ref q489, .ref q493, .ref q503, .null])), (q477, .inl (cA478, 60, .inl (fun _ => 0))), (q503, .inl (cA505, 10, .inr (.inr (.inr (.inr (fun i => if i < 10 then some (r504 i) else none)))))), ((r504 0), .inl (cA478, 40, .inl (fun _ => 0))), ((r504 1), .inl (cA478, 40, .inl (fun _ => 0))), ((r504 2), .inl (cA478, 40, .inl (fun _ => 0))), ((r504 3), .inl (cA478, 40, .inl (fun _ => 0))), ((r504 4), .inl (cA478, 40, .inl (fun _ => 0))), ((r504 5), .inl (cA478, 40, .inl (fun _ => 0))), ((r504 6), .inl (cA478, 40, .inl (fun _ => 0))), ((r504 7), .inl (cA478, 40, .inl (fun _ => 0))), ((r504 8), .inl (cA478, 40, .inl (fun _ => 0))), ((r504 9), .inl (cA478, 40, .inl (fun _ => 0)))] := hD
  refine lv_aload_n hx hb dX9_init_160 rfl (lv_at hl 0 rfl) ?_
  refine lv_bipush (v := 10) hx hb dX9_init_161 (by decide) ?_
  refine lv_bipush (v := 40) hx hb dX9_init_163 (by decide) ?_
  refine va_mna (X := [(h0, .inr (9, [.ref w, .ref sg, .ref ad, .ref rs, .ref ro, .ref q460, .int 0, .ref q465, .int 0, .int 0, .ref q471, .int 0, .ref q477, .ref q481, .ref q485, .ref q489, .ref q493, .ref q503, .null])), (q477, .inl (cA478, 60, .inl (fun _ => 0))), (q503, .inl (cA505, 10, .inr (.inr (.inr (.inr (fun i => if i < 10 then some (r504 i) else none)))))), ((r504 0), .inl (cA478, 40, .inl (fun _ => 0))), ((r504 1), .inl (cA478, 40, .inl (fun _ => 0))), ((r504 2), .inl (cA478, 40, .inl (fun _ => 0))), ((r504 3), .inl (cA478, 40, .inl (fun _ => 0))), ((r504 4), .inl (cA478, 40, .inl (fun _ => 0))), ((r504 5), .inl (cA478, 40, .inl (fun _ => 0))), ((r504 6), .inl (cA478, 40, .inl (fun _ => 0))), ((r504 7), .inl (cA478, 40, .inl (fun _ => 0))), ((r504 8), .inl (cA478, 40, .inl (fun _ => 0))), ((r504 9), .inl (cA478, 40, .inl (fun _ => 0)))]) (L := []) (f := fun _ => .inl (cA478, (0, .inl (fun _ => 0)))) (ty := .int) (cy := cA478) (N' := 10) (K' := 40) (z := (40, .inl (fun _ => 0))) hx hb hown (hts _ u_351) hE.2.2.2.2.1 (hts _ u_80) (hK.2 0 _ rfl).2 hK hP hD hS hA (by decide) (by decide) (by decide) (by decide) (Nat.le_of_ble_eq_true rfl) (Nat.le_of_ble_eq_true rfl) (Nat.le_of_ble_eq_true rfl) (by decide) (by decide) (Nat.le_of_ble_eq_true rfl) (Nat.le_of_ble_eq_true rfl) (mna_z 40) dX9_init_165 (fun q508 r509 cA510 H511 hr1 hr2 hK hP hD hS => ?_)
  have hP := hP.sub (ws' := [(h0, .inr (9, [.ref w, .ref sg, .ref ad, .ref rs, .ref ro, .ref q460, .int 0, .ref q465, .int 0, .int 0, .ref q471, .int 0, .ref q477, .ref q481, .ref q485, .ref q489, .ref q493, .ref q503, .null])), (q477, .inl (cA478, 60, .inl (fun _ => 0))), (q503, .inl (cA505, 10, .inr (.inr (.inr (.inr (fun i => if i < 10 then some (r504 i) else none)))))), ((r504 0), .inl (cA478, 40, .inl (fun _ => 0))), ((r504 1), .inl (cA478, 40, .inl (fun _ => 0))), ((r504 2), .inl (cA478, 40, .inl (fun _ => 0))), ((r504 3), .inl (cA478, 40, .inl (fun _ => 0))), ((r504 4), .inl (cA478, 40, .inl (fun _ => 0))), ((r504 5), .inl (cA478, 40, .inl (fun _ => 0))), ((r504 6), .inl (cA478, 40, .inl (fun _ => 0))), ((r504 7), .inl (cA478, 40, .inl (fun _ => 0))), ((r504 8), .inl (cA478, 40, .inl (fun _ => 0))), ((r504 9), .inl (cA478, 40, .inl (fun _ => 0)))]) [0, 1, 2, 3, 4, 5, 6, 7, 8, 9, 10, 11, 12] rfl
  have hD := hD.sub (ws' := [(h0, .inr (9, [.ref w, .ref sg, .ref ad, .ref rs, .ref ro, .ref q460, .int 0, .ref q465, .int 0, .int 0, .ref q471, .int 0, .ref q477, .ref q481, .ref q485, .ref q489, .ref q493, .ref q503, .null])), (q477, .inl (cA478, 60, .inl (fun _ => 0))), (q503, .inl (cA505, 10, .inr (.inr (.inr (.inr (fun i => if i < 10 then some (r504 i) else none)))))), ((r504 0), .inl (cA478, 40, .inl (fun _ => 0))), ((r504 1), .inl (cA478, 40, .inl (fun _ => 0))), ((r504 2), .inl (cA478, 40, .inl (fun _ => 0))), ((r504 3), .inl (cA478, 40, .inl (fun _ => 0))), ((r504 4), .inl (cA478, 40, .inl (fun _ => 0))), ((r504 5), .inl (cA478, 40, .inl (fun _ => 0))), ((r504 6), .inl (cA478, 40, .inl (fun _ => 0))), ((r504 7), .inl (cA478, 40, .inl (fun _ => 0))), ((r504 8), .inl (cA478, 40, .inl (fun _ => 0))), ((r504 9), .inl (cA478, 40, .inl (fun _ => 0)))]) [0, 1, 2, 3, 4, 5, 6, 7, 8, 9, 10, 11, 12] (by decide) rfl
  have hK := hK.sub (tys' := [(cA478, .int), (cA505, .array .int)]) [0, 1] rfl
  refine W.widen (k := 97) (n := 5812) (Nat.le_of_ble_eq_true rfl) (Nat.le_of_ble_eq_true rfl) ?_
  refine va_putF (D := (dC, dI)) (ci := 9) (v := .ref q508) (ty := (.array (.array .int))) (C := RX9) (T := TX9) (N := 19) hx hb hts gX9 tyX9 tyX9_ok nmX9 hown hK hP hD hS 0 rfl rfl 18 (by decide) (hts _ u_376) (fun _ h9 => h9) rfl hin rfl (by decide +kernel) rfl rfl (Nat.le_of_ble_eq_true rfl) dX9_init_169 (fun H512 locs hP hD hS => ?_)
  have hP : va_P (dC, dI) vwCl [(h0, .inr (9, [.ref w, .ref sg, .ref ad, .ref rs, .ref ro, .ref q460, .int 0, .ref q465, .int 0, .int 0, .ref q471, .int 0, .ref q477, .ref q481, .ref q485, .ref q489, .ref q493, .ref q503, .ref q508])), (q477, .inl (cA478, 60, .inl (fun _ => 0))), (q503, .inl (cA505, 10, .inr (.inr (.inr (.inr (fun i => if i < 10 then some (r504 i) else none)))))), ((r504 0), .inl (cA478, 40, .inl (fun _ => 0))), ((r504 1), .inl (cA478, 40, .inl (fun _ => 0))), ((r504 2), .inl (cA478, 40, .inl (fun _ => 0))), ((r504 3), .inl (cA478, 40, .inl (fun _ => 0))), ((r504 4), .inl (cA478, 40, .inl (fun _ => 0))), ((r504 5), .inl (cA478, 40, .inl (fun _ => 0))), ((r504 6), .inl (cA478, 40, .inl (fun _ => 0))), ((r504 7), .inl (cA478, 40, .inl (fun _ => 0))), ((r504 8), .inl (cA478, 40, .inl (fun _ => 0))), ((r504 9), .inl (cA478, 40, .inl (fun _ => 0)))] H512 := hP
  have hD : va_D A [(h0, .inr (9, [.ref w, .ref sg, .ref ad, .ref rs, .ref ro, .ref q460, .int 0, .ref q465, .int 0, .int 0, .ref q471, .int 0, .ref q477, .ref q481, .ref q485, .ref q489, .ref q493, .ref q503, .ref q508])), (q477, .inl (cA478, 60, .inl (fun _ => 0))), (q503, .inl (cA505, 10, .inr (.inr (.inr (.inr (fun i => if i < 10 then some (r504 i) else none)))))), ((r504 0), .inl (cA478, 40, .inl (fun _ => 0))), ((r504 1), .inl (cA478, 40, .inl (fun _ => 0))), ((r504 2), .inl (cA478, 40, .inl (fun _ => 0))), ((r504 3), .inl (cA478, 40, .inl (fun _ => 0))), ((r504 4), .inl (cA478, 40, .inl (fun _ => 0))), ((r504 5), .inl (cA478, 40, .inl (fun _ => 0))), ((r504 6), .inl (cA478, 40, .inl (fun _ => 0))), ((r504 7), .inl (cA478, 40, .inl (fun _ => 0))), ((r504 8), .inl (cA478, 40, .inl (fun _ => 0))), ((r504 9), .inl (cA478, 40, .inl (fun _ => 0)))] := hD
  refine lv_iconst (v := 0) hx hb dX9_init_172 (by decide) ?_
  refine lv_istore (lv' := [(6, .int 0), (0, .ref h0), (1, .ref w), (2, .ref sg), (3, .ref ad), (4, .ref rs), (5, .ref ro)]) hx hb dX9_init_173 hl (by decide) rfl (fun ls hl => ?_)
  refine lv_iload hx hb dX9_init_175 (lv_at hl 0 rfl) ?_
  refine lv_bipush (v := 10) hx hb dX9_init_177 (by decide) ?_
  refine lv_icmp_ge (tgt := 199) hx hb dX9_init_179 (by decide) (fun h9 => absurd h9 (by decide)) (fun _ => ?_)
  refine lv_aload_n hx hb dX9_init_182 rfl (lv_at hl 1 rfl) ?_
  refine va_get (D := (dC, dI)) (ci := 9) (v := .ref q503) (C := RX9) (T := TX9) (N := 19) hx hb hts gX9 hown hK hP 0 rfl rfl 17 (by decide) (hts _ u_375) (fun _ h9 => h9) rfl dX9_init_183 ?_
  refine lv_iload hx hb dX9_init_186 (lv_at hl 0 rfl) ?_
  refine gaald hx hb hK hP 2 1 rfl rfl (by unfold vp_in; decide) dX9_init_188 ?_
  rw [show va_rf ((fun i => if i < 10 then some (r504 i) else none) (0 : Int32).toNatClampNeg) = .ref (r504 0) from rfl]
  refine lv_iconst (v := (-1)) hx hb dX9_init_189 (by decide) ?_
  have hPc := hP.sub (ws' := [((r504 0), .inl (cA478, 40, .inl (fun _ => 0)))]) [3] rfl
  have hDc := hD.sub (ws' := [((r504 0), .inl (cA478, 40, .inl (fun _ => 0)))]) [3] (by decide) rfl
  have hKc := hK.sub (tys' := [(cA478, .int)]) [0] rfl
  have hFc := va_free (wc := [((r504 0), .inl (cA478, 40, .inl (fun _ => 0)))]) hD hS hA [3] rfl
  refine va_callv (va_runS (As := [.ref (r504 0), .int (-1)]) (rest := []) ⟨hx, hb, hml, hown, hts⟩ (c_J7_fill_53178 l dC dI H512.size (r504 0) cA478 40 (by decide) (fun _ => 0) (-1)) (va_cwS 2 hts (gS u_350 u_38 u_3 u_39) rfl rfl rfl (by decide +kernel) ⟨Nat.le_of_ble_eq_true rfl, Nat.le_of_ble_eq_true rfl⟩) ⟨gP_blind, gP_call hPc hKc hDc hE⟩ rfl rfl hl.1 rfl (lv_room (Nat.le_of_ble_eq_true rfl)) dX9_init_190 ⟨(Nat.le_of_ble_eq_true rfl), (Nat.le_of_ble_eq_true rfl)⟩) hS (fun q _ h => hFc q h) hFc (fun u9 t9 H513 locs ht hvm hw hB hz1 hk1 hS => ?_)
  obtain ⟨f2515, hP1, hK1, hD1⟩ := hB
  rw [ht] at hP1
  have hK1 := va_K.moved hvm.symm hK1
  obtain ⟨hP, hD⟩ := va_join (wr := [(h0, .inr (9, [.ref w, .ref sg, .ref ad, .ref rs, .ref ro, .ref q460, .int 0, .ref q465, .int 0, .int 0, .ref q471, .int 0, .ref q477, .ref q481, .ref q485, .ref q489, .ref q493, .ref q503, .ref q508])), (q477, .inl (cA478, 60, .inl (fun _ => 0))), (q503, .inl (cA505, 10, .inr (.inr (.inr (.inr (fun i => if i < 10 then some (r504 i) else none)))))), ((r504 1), .inl (cA478, 40, .inl (fun _ => 0))), ((r504 2), .inl (cA478, 40, .inl (fun _ => 0))), ((r504 3), .inl (cA478, 40, .inl (fun _ => 0))), ((r504 4), .inl (cA478, 40, .inl (fun _ => 0))), ((r504 5), .inl (cA478, 40, .inl (fun _ => 0))), ((r504 6), .inl (cA478, 40, .inl (fun _ => 0))), ((r504 7), .inl (cA478, 40, .inl (fun _ => 0))), ((r504 8), .inl (cA478, 40, .inl (fun _ => 0))), ((r504 9), .inl (cA478, 40, .inl (fun _ => 0)))]) (w1 := [((r504 0), .inl (cA478, 40, .inl f2515))]) hP hD [3] [0, 1, 2, 4, 5, 6, 7, 8, 9, 10, 11, 12] rfl rfl (by decide) (by decide) hk1 hFc hP1 hD1
  have hK := (hK.sub (tys' := [(cA478, .int), (cA505, .array .int), (cA478, .int), (cA478, .int), (cA478, .int), (cA478, .int), (cA478, .int), (cA478, .int), (cA478, .int), (cA478, .int), (cA478, .int)]) [0, 1, 0, 0, 0, 0, 0, 0, 0, 0, 0] rfl).app hK1
  have hK : va_K (dC, dI) vwCl [(cA478, .int), (cA505, .array .int), (cA478, .int), (cA478, .int), (cA478, .int), (cA478, .int), (cA478, .int), (cA478, .int), (cA478, .int), (cA478, .int), (cA478, .int), (cA478, .int)] s := hK
  have hP : va_P (dC, dI) vwCl [(h0, .inr (9, [.ref w, .ref sg, .ref ad, .ref rs, .ref ro, .ref q460, .int 0, .ref q465, .int 0, .int 0, .ref q471, .int 0, .ref q477, .ref q481, .ref q485, .ref q489, .ref q493, .ref q503, .ref q508])), (q477, .inl (cA478, 60, .inl (fun _ => 0))), (q503, .inl (cA505, 10, .inr (.inr (.inr (.inr (fun i => if i < 10 then some (r504 i) else none)))))), ((r504 1), .inl (cA478, 40, .inl (fun _ => 0))), ((r504 2), .inl (cA478, 40, .inl (fun _ => 0))), ((r504 3), .inl (cA478, 40, .inl (fun _ => 0))), ((r504 4), .inl (cA478, 40, .inl (fun _ => 0))), ((r504 5), .inl (cA478, 40, .inl (fun _ => 0))), ((r504 6), .inl (cA478, 40, .inl (fun _ => 0))), ((r504 7), .inl (cA478, 40, .inl (fun _ => 0))), ((r504 8), .inl (cA478, 40, .inl (fun _ => 0))), ((r504 9), .inl (cA478, 40, .inl (fun _ => 0))), ((r504 0), .inl (cA478, 40, .inl f2515))] H513 := hP
  have hD : va_D A [(h0, .inr (9, [.ref w, .ref sg, .ref ad, .ref rs, .ref ro, .ref q460, .int 0, .ref q465, .int 0, .int 0, .ref q471, .int 0, .ref q477, .ref q481, .ref q485, .ref q489, .ref q493, .ref q503, .ref q508])), (q477, .inl (cA478, 60, .inl (fun _ => 0))), (q503, .inl (cA505, 10, .inr (.inr (.inr (.inr (fun i => if i < 10 then some (r504 i) else none)))))), ((r504 1), .inl (cA478, 40, .inl (fun _ => 0))), ((r504 2), .inl (cA478, 40, .inl (fun _ => 0))), ((r504 3), .inl (cA478, 40, .inl (fun _ => 0))), ((r504 4), .inl (cA478, 40, .inl (fun _ => 0))), ((r504 5), .inl (cA478, 40, .inl (fun _ => 0))), ((r504 6), .inl (cA478, 40, .inl (fun _ => 0))), ((r504 7), .inl (cA478, 40, .inl (fun _ => 0))), ((r504 8), .inl (cA478, 40, .inl (fun _ => 0))), ((r504 9), .inl (cA478, 40, .inl (fun _ => 0))), ((r504 0), .inl (cA478, 40, .inl f2515))] := hD
  refine lv_iinc (v := 1) (lv' := [(6, .int 1), (0, .ref h0), (1, .ref w), (2, .ref sg), (3, .ref ad), (4, .ref rs), (5, .ref ro)]) hx hb dX9_init_193 hl (k := 0) rfl (by decide) (by decide) rfl (fun ls hl => ?_)
  refine lv_goto (tgt := 175) hx hb dX9_init_196 (by decide) ?_
  refine lv_iload hx hb dX9_init_175 (lv_at hl 0 rfl) ?_
  refine lv_bipush (v := 10) hx hb dX9_init_177 (by decide) ?_
  refine lv_icmp_ge (tgt := 199) hx hb dX9_init_179 (by decide) (fun h9 => absurd h9 (by decide)) (fun _ => ?_)
  refine lv_aload_n hx hb dX9_init_182 rfl (lv_at hl 1 rfl) ?_
  refine va_get (D := (dC, dI)) (ci := 9) (v := .ref q503) (C := RX9) (T := TX9) (N := 19) hx hb hts gX9 hown hK hP 0 rfl rfl 17 (by decide) (hts _ u_375) (fun _ h9 => h9) rfl dX9_init_183 ?_
  refine lv_iload hx hb dX9_init_186 (lv_at hl 0 rfl) ?_
  refine gaald hx hb hK hP 2 1 rfl rfl (by unfold vp_in; decide) dX9_init_188 ?_
  rw [show va_rf ((fun i => if i < 10 then some (r504 i) else none) (1 : Int32).toNatClampNeg) = .ref (r504 1) from rfl]
  refine lv_iconst (v := (-1)) hx hb dX9_init_189 (by decide) ?_
  have hPc := hP.sub (ws' := [((r504 1), .inl (cA478, 40, .inl (fun _ => 0)))]) [3] rfl
  have hDc := hD.sub (ws' := [((r504 1), .inl (cA478, 40, .inl (fun _ => 0)))]) [3] (by decide) rfl
  have hKc := hK.sub (tys' := [(cA478, .int)]) [0] rfl
  have hFc := va_free (wc := [((r504 1), .inl (cA478, 40, .inl (fun _ => 0)))]) hD hS hA [3] rfl
  refine va_callv (va_runS (As := [.ref (r504 1), .int (-1)]) (rest := []) ⟨hx, hb, hml, hown, hts⟩ (c_J7_fill_53178 l dC dI H513.size (r504 1) cA478 40 (by decide) (fun _ => 0) (-1)) (va_cwS 2 hts (gS u_350 u_38 u_3 u_39) rfl rfl rfl (by decide +kernel) ⟨Nat.le_of_ble_eq_true rfl, Nat.le_of_ble_eq_true rfl⟩) ⟨gP_blind, gP_call hPc hKc hDc hE⟩ rfl rfl hl.1 rfl (lv_room (Nat.le_of_ble_eq_true rfl)) dX9_init_190 ⟨(Nat.le_of_ble_eq_true rfl), (Nat.le_of_ble_eq_true rfl)⟩) hS (fun q _ h => hFc q h) hFc (fun u9 t9 H516 locs ht hvm hw hB hz1 hk1 hS => ?_)
  obtain ⟨f2518, hP1, hK1, hD1⟩ := hB
  rw [ht] at hP1
  have hK1 := va_K.moved hvm.symm hK1
  obtain ⟨hP, hD⟩ := va_join (wr := [(h0, .inr (9, [.ref w, .ref sg, .ref ad, .ref rs, .ref ro, .ref q460, .int 0, .ref q465, .int 0, .int 0, .ref q471, .int 0, .ref q477, .ref q481, .ref q485, .ref q489, .ref q493, .ref q503, .ref q508])), (q477, .inl (cA478, 60, .inl (fun _ => 0))), (q503, .inl (cA505, 10, .inr (.inr (.inr (.inr (fun i => if i < 10 then some (r504 i) else none)))))), ((r504 2), .inl (cA478, 40, .inl (fun _ => 0))), ((r504 3), .inl (cA478, 40, .inl (fun _ => 0))), ((r504 4), .inl (cA478, 40, .inl (fun _ => 0))), ((r504 5), .inl (cA478, 40, .inl (fun _ => 0))), ((r504 6), .inl (cA478, 40, .inl (fun _ => 0))), ((r504 7), .inl (cA478, 40, .inl (fun _ => 0))), ((r504 8), .inl (cA478, 40, .inl (fun _ => 0))), ((r504 9), .inl (cA478, 40, .inl (fun _ => 0))), ((r504 0), .inl (cA478, 40, .inl f2515))]) (w1 := [((r504 1), .inl (cA478, 40, .inl f2518))]) hP hD [3] [0, 1, 2, 4, 5, 6, 7, 8, 9, 10, 11, 12] rfl rfl (by decide) (by decide) hk1 hFc hP1 hD1
  have hK := (hK.sub (tys' := [(cA478, .int), (cA505, .array .int), (cA478, .int), (cA478, .int), (cA478, .int), (cA478, .int), (cA478, .int), (cA478, .int), (cA478, .int), (cA478, .int), (cA478, .int)]) [0, 1, 0, 0, 0, 0, 0, 0, 0, 0, 0] rfl).app hK1
  have hK : va_K (dC, dI) vwCl [(cA478, .int), (cA505, .array .int), (cA478, .int), (cA478, .int), (cA478, .int), (cA478, .int), (cA478, .int), (cA478, .int), (cA478, .int), (cA478, .int), (cA478, .int), (cA478, .int)] s := hK
  have hP : va_P (dC, dI) vwCl [(h0, .inr (9, [.ref w, .ref sg, .ref ad, .ref rs, .ref ro, .ref q460, .int 0, .ref q465, .int 0, .int 0, .ref q471, .int 0, .ref q477, .ref q481, .ref q485, .ref q489, .ref q493, .ref q503, .ref q508])), (q477, .inl (cA478, 60, .inl (fun _ => 0))), (q503, .inl (cA505, 10, .inr (.inr (.inr (.inr (fun i => if i < 10 then some (r504 i) else none)))))), ((r504 2), .inl (cA478, 40, .inl (fun _ => 0))), ((r504 3), .inl (cA478, 40, .inl (fun _ => 0))), ((r504 4), .inl (cA478, 40, .inl (fun _ => 0))), ((r504 5), .inl (cA478, 40, .inl (fun _ => 0))), ((r504 6), .inl (cA478, 40, .inl (fun _ => 0))), ((r504 7), .inl (cA478, 40, .inl (fun _ => 0))), ((r504 8), .inl (cA478, 40, .inl (fun _ => 0))), ((r504 9), .inl (cA478, 40, .inl (fun _ => 0))), ((r504 0), .inl (cA478, 40, .inl f2515)), ((r504 1), .inl (cA478, 40, .inl f2518))] H516 := hP
  have hD : va_D A [(h0, .inr (9, [.ref w, .ref sg, .ref ad, .ref rs, .ref ro, .ref q460, .int 0, .ref q465, .int 0, .int 0, .ref q471, .int 0, .ref q477, .ref q481, .ref q485, .ref q489, .ref q493, .ref q503, .ref q508])), (q477, .inl (cA478, 60, .inl (fun _ => 0))), (q503, .inl (cA505, 10, .inr (.inr (.inr (.inr (fun i => if i < 10 then some (r504 i) else none)))))), ((r504 2), .inl (cA478, 40, .inl (fun _ => 0))), ((r504 3), .inl (cA478, 40, .inl (fun _ => 0))), ((r504 4), .inl (cA478, 40, .inl (fun _ => 0))), ((r504 5), .inl (cA478, 40, .inl (fun _ => 0))), ((r504 6), .inl (cA478, 40, .inl (fun _ => 0))), ((r504 7), .inl (cA478, 40, .inl (fun _ => 0))), ((r504 8), .inl (cA478, 40, .inl (fun _ => 0))), ((r504 9), .inl (cA478, 40, .inl (fun _ => 0))), ((r504 0), .inl (cA478, 40, .inl f2515)), ((r504 1), .inl (cA478, 40, .inl f2518))] := hD
  refine lv_iinc (v := 2) (lv' := [(6, .int 2), (0, .ref h0), (1, .ref w), (2, .ref sg), (3, .ref ad), (4, .ref rs), (5, .ref ro)]) hx hb dX9_init_193 hl (k := 0) rfl (by decide) (by decide) rfl (fun ls hl => ?_)
  refine lv_goto (tgt := 175) hx hb dX9_init_196 (by decide) ?_
  refine lv_iload hx hb dX9_init_175 (lv_at hl 0 rfl) ?_
  refine lv_bipush (v := 10) hx hb dX9_init_177 (by decide) ?_
  refine lv_icmp_ge (tgt := 199) hx hb dX9_init_179 (by decide) (fun h9 => absurd h9 (by decide)) (fun _ => ?_)
  refine lv_aload_n hx hb dX9_init_182 rfl (lv_at hl 1 rfl) ?_
  refine va_get (D := (dC, dI)) (ci := 9) (v := .ref q503) (C := RX9) (T := TX9) (N := 19) hx hb hts gX9 hown hK hP 0 rfl rfl 17 (by decide) (hts _ u_375) (fun _ h9 => h9) rfl dX9_init_183 ?_
  refine lv_iload hx hb dX9_init_186 (lv_at hl 0 rfl) ?_
  refine gaald hx hb hK hP 2 1 rfl rfl (by unfold vp_in; decide) dX9_init_188 ?_
  rw [show va_rf ((fun i => if i < 10 then some (r504 i) else none) (2 : Int32).toNatClampNeg) = .ref (r504 2) from rfl]
  refine lv_iconst (v := (-1)) hx hb dX9_init_189 (by decide) ?_
  have hPc := hP.sub (ws' := [((r504 2), .inl (cA478, 40, .inl (fun _ => 0)))]) [3] rfl
  have hDc := hD.sub (ws' := [((r504 2), .inl (cA478, 40, .inl (fun _ => 0)))]) [3] (by decide) rfl
  have hKc := hK.sub (tys' := [(cA478, .int)]) [0] rfl
  have hFc := va_free (wc := [((r504 2), .inl (cA478, 40, .inl (fun _ => 0)))]) hD hS hA [3] rfl
  refine va_callv (va_runS (As := [.ref (r504 2), .int (-1)]) (rest := []) ⟨hx, hb, hml, hown, hts⟩ (c_J7_fill_53178 l dC dI H516.size (r504 2) cA478 40 (by decide) (fun _ => 0) (-1)) (va_cwS 2 hts (gS u_350 u_38 u_3 u_39) rfl rfl rfl (by decide +kernel) ⟨Nat.le_of_ble_eq_true rfl, Nat.le_of_ble_eq_true rfl⟩) ⟨gP_blind, gP_call hPc hKc hDc hE⟩ rfl rfl hl.1 rfl (lv_room (Nat.le_of_ble_eq_true rfl)) dX9_init_190 ⟨(Nat.le_of_ble_eq_true rfl), (Nat.le_of_ble_eq_true rfl)⟩) hS (fun q _ h => hFc q h) hFc (fun u9 t9 H519 locs ht hvm hw hB hz1 hk1 hS => ?_)
  obtain ⟨f2521, hP1, hK1, hD1⟩ := hB
  rw [ht] at hP1
  have hK1 := va_K.moved hvm.symm hK1
  obtain ⟨hP, hD⟩ := va_join (wr := [(h0, .inr (9, [.ref w, .ref sg, .ref ad, .ref rs, .ref ro, .ref q460, .int 0, .ref q465, .int 0, .int 0, .ref q471, .int 0, .ref q477, .ref q481, .ref q485, .ref q489, .ref q493, .ref q503, .ref q508])), (q477, .inl (cA478, 60, .inl (fun _ => 0))), (q503, .inl (cA505, 10, .inr (.inr (.inr (.inr (fun i => if i < 10 then some (r504 i) else none)))))), ((r504 3), .inl (cA478, 40, .inl (fun _ => 0))), ((r504 4), .inl (cA478, 40, .inl (fun _ => 0))), ((r504 5), .inl (cA478, 40, .inl (fun _ => 0))), ((r504 6), .inl (cA478, 40, .inl (fun _ => 0))), ((r504 7), .inl (cA478, 40, .inl (fun _ => 0))), ((r504 8), .inl (cA478, 40, .inl (fun _ => 0))), ((r504 9), .inl (cA478, 40, .inl (fun _ => 0))), ((r504 0), .inl (cA478, 40, .inl f2515)), ((r504 1), .inl (cA478, 40, .inl f2518))]) (w1 := [((r504 2), .inl (cA478, 40, .inl f2521))]) hP hD [3] [0, 1, 2, 4, 5, 6, 7, 8, 9, 10, 11, 12] rfl rfl (by decide) (by decide) hk1 hFc hP1 hD1
  have hK := (hK.sub (tys' := [(cA478, .int), (cA505, .array .int), (cA478, .int), (cA478, .int), (cA478, .int), (cA478, .int), (cA478, .int), (cA478, .int), (cA478, .int), (cA478, .int), (cA478, .int)]) [0, 1, 0, 0, 0, 0, 0, 0, 0, 0, 0] rfl).app hK1
  have hK : va_K (dC, dI) vwCl [(cA478, .int), (cA505, .array .int), (cA478, .int), (cA478, .int), (cA478, .int), (cA478, .int), (cA478, .int), (cA478, .int), (cA478, .int), (cA478, .int), (cA478, .int), (cA478, .int)] s := hK
  have hP : va_P (dC, dI) vwCl [(h0, .inr (9, [.ref w, .ref sg, .ref ad, .ref rs, .ref ro, .ref q460, .int 0, .ref q465, .int 0, .int 0, .ref q471, .int 0, .ref q477, .ref q481, .ref q485, .ref q489, .ref q493, .ref q503, .ref q508])), (q477, .inl (cA478, 60, .inl (fun _ => 0))), (q503, .inl (cA505, 10, .inr (.inr (.inr (.inr (fun i => if i < 10 then some (r504 i) else none)))))), ((r504 3), .inl (cA478, 40, .inl (fun _ => 0))), ((r504 4), .inl (cA478, 40, .inl (fun _ => 0))), ((r504 5), .inl (cA478, 40, .inl (fun _ => 0))), ((r504 6), .inl (cA478, 40, .inl (fun _ => 0))), ((r504 7), .inl (cA478, 40, .inl (fun _ => 0))), ((r504 8), .inl (cA478, 40, .inl (fun _ => 0))), ((r504 9), .inl (cA478, 40, .inl (fun _ => 0))), ((r504 0), .inl (cA478, 40, .inl f2515)), ((r504 1), .inl (cA478, 40, .inl f2518)), ((r504 2), .inl (cA478, 40, .inl f2521))] H519 := hP
  have hD : va_D A [(h0, .inr (9, [.ref w, .ref sg, .ref ad, .ref rs, .ref ro, .ref q460, .int 0, .ref q465, .int 0, .int 0, .ref q471, .int 0, .ref q477, .ref q481, .ref q485, .ref q489, .ref q493, .ref q503, .ref q508])), (q477, .inl (cA478, 60, .inl (fun _ => 0))), (q503, .inl (cA505, 10, .inr (.inr (.inr (.inr (fun i => if i < 10 then some (r504 i) else none)))))), ((r504 3), .inl (cA478, 40, .inl (fun _ => 0))), ((r504 4), .inl (cA478, 40, .inl (fun _ => 0))), ((r504 5), .inl (cA478, 40, .inl (fun _ => 0))), ((r504 6), .inl (cA478, 40, .inl (fun _ => 0))), ((r504 7), .inl (cA478, 40, .inl (fun _ => 0))), ((r504 8), .inl (cA478, 40, .inl (fun _ => 0))), ((r504 9), .inl (cA478, 40, .inl (fun _ => 0))), ((r504 0), .inl (cA478, 40, .inl f2515)), ((r504 1), .inl (cA478, 40, .inl f2518)), ((r504 2), .inl (cA478, 40, .inl f2521))] := hD
  refine lv_iinc (v := 3) (lv' := [(6, .int 3), (0, .ref h0), (1, .ref w), (2, .ref sg), (3, .ref ad), (4, .ref rs), (5, .ref ro)]) hx hb dX9_init_193 hl (k := 0) rfl (by decide) (by decide) rfl (fun ls hl => ?_)
  refine lv_goto (tgt := 175) hx hb dX9_init_196 (by decide) ?_
  refine lv_iload hx hb dX9_init_175 (lv_at hl 0 rfl) ?_
  refine lv_bipush (v := 10) hx hb dX9_init_177 (by decide) ?_
  refine lv_icmp_ge (tgt := 199) hx hb dX9_init_179 (by decide) (fun h9 => absurd h9 (by decide)) (fun _ => ?_)
  refine lv_aload_n hx hb dX9_init_182 rfl (lv_at hl 1 rfl) ?_
  refine va_get (D := (dC, dI)) (ci := 9) (v := .ref q503) (C := RX9) (T := TX9) (N := 19) hx hb hts gX9 hown hK hP 0 rfl rfl 17 (by decide) (hts _ u_375) (fun _ h9 => h9) rfl dX9_init_183 ?_
  refine lv_iload hx hb dX9_init_186 (lv_at hl 0 rfl) ?_
  refine gaald hx hb hK hP 2 1 rfl rfl (by unfold vp_in; decide) dX9_init_188 ?_
  rw [show va_rf ((fun i => if i < 10 then some (r504 i) else none) (3 : Int32).toNatClampNeg) = .ref (r504 3) from rfl]
  refine lv_iconst (v := (-1)) hx hb dX9_init_189 (by decide) ?_
  have hPc := hP.sub (ws' := [((r504 3), .inl (cA478, 40, .inl (fun _ => 0)))]) [3] rfl
  have hDc := hD.sub (ws' := [((r504 3), .inl (cA478, 40, .inl (fun _ => 0)))]) [3] (by decide) rfl
  have hKc := hK.sub (tys' := [(cA478, .int)]) [0] rfl
  have hFc := va_free (wc := [((r504 3), .inl (cA478, 40, .inl (fun _ => 0)))]) hD hS hA [3] rfl
  refine va_callv (va_runS (As := [.ref (r504 3), .int (-1)]) (rest := []) ⟨hx, hb, hml, hown, hts⟩ (c_J7_fill_53178 l dC dI H519.size (r504 3) cA478 40 (by decide) (fun _ => 0) (-1)) (va_cwS 2 hts (gS u_350 u_38 u_3 u_39) rfl rfl rfl (by decide +kernel) ⟨Nat.le_of_ble_eq_true rfl, Nat.le_of_ble_eq_true rfl⟩) ⟨gP_blind, gP_call hPc hKc hDc hE⟩ rfl rfl hl.1 rfl (lv_room (Nat.le_of_ble_eq_true rfl)) dX9_init_190 ⟨(Nat.le_of_ble_eq_true rfl), (Nat.le_of_ble_eq_true rfl)⟩) hS (fun q _ h => hFc q h) hFc (fun u9 t9 H522 locs ht hvm hw hB hz1 hk1 hS => ?_)
  obtain ⟨f2524, hP1, hK1, hD1⟩ := hB
  rw [ht] at hP1
  have hK1 := va_K.moved hvm.symm hK1
  obtain ⟨hP, hD⟩ := va_join (wr := [(h0, .inr (9, [.ref w, .ref sg, .ref ad, .ref rs, .ref ro, .ref q460, .int 0, .ref q465, .int 0, .int 0, .ref q471, .int 0, .ref q477, .ref q481, .ref q485, .ref q489, .ref q493, .ref q503, .ref q508])), (q477, .inl (cA478, 60, .inl (fun _ => 0))), (q503, .inl (cA505, 10, .inr (.inr (.inr (.inr (fun i => if i < 10 then some (r504 i) else none)))))), ((r504 4), .inl (cA478, 40, .inl (fun _ => 0))), ((r504 5), .inl (cA478, 40, .inl (fun _ => 0))), ((r504 6), .inl (cA478, 40, .inl (fun _ => 0))), ((r504 7), .inl (cA478, 40, .inl (fun _ => 0))), ((r504 8), .inl (cA478, 40, .inl (fun _ => 0))), ((r504 9), .inl (cA478, 40, .inl (fun _ => 0))), ((r504 0), .inl (cA478, 40, .inl f2515)), ((r504 1), .inl (cA478, 40, .inl f2518)), ((r504 2), .inl (cA478, 40, .inl f2521))]) (w1 := [((r504 3), .inl (cA478, 40, .inl f2524))]) hP hD [3] [0, 1, 2, 4, 5, 6, 7, 8, 9, 10, 11, 12] rfl rfl (by decide) (by decide) hk1 hFc hP1 hD1
  have hK := (hK.sub (tys' := [(cA478, .int), (cA505, .array .int), (cA478, .int), (cA478, .int), (cA478, .int), (cA478, .int), (cA478, .int), (cA478, .int), (cA478, .int), (cA478, .int), (cA478, .int)]) [0, 1, 0, 0, 0, 0, 0, 0, 0, 0, 0] rfl).app hK1
  have hK : va_K (dC, dI) vwCl [(cA478, .int), (cA505, .array .int), (cA478, .int), (cA478, .int), (cA478, .int), (cA478, .int), (cA478, .int), (cA478, .int), (cA478, .int), (cA478, .int), (cA478, .int), (cA478, .int)] s := hK
  have hP : va_P (dC, dI) vwCl [(h0, .inr (9, [.ref w, .ref sg, .ref ad, .ref rs, .ref ro, .ref q460, .int 0, .ref q465, .int 0, .int 0, .ref q471, .int 0, .ref q477, .ref q481, .ref q485, .ref q489, .ref q493, .ref q503, .ref q508])), (q477, .inl (cA478, 60, .inl (fun _ => 0))), (q503, .inl (cA505, 10, .inr (.inr (.inr (.inr (fun i => if i < 10 then some (r504 i) else none)))))), ((r504 4), .inl (cA478, 40, .inl (fun _ => 0))), ((r504 5), .inl (cA478, 40, .inl (fun _ => 0))), ((r504 6), .inl (cA478, 40, .inl (fun _ => 0))), ((r504 7), .inl (cA478, 40, .inl (fun _ => 0))), ((r504 8), .inl (cA478, 40, .inl (fun _ => 0))), ((r504 9), .inl (cA478, 40, .inl (fun _ => 0))), ((r504 0), .inl (cA478, 40, .inl f2515)), ((r504 1), .inl (cA478, 40, .inl f2518)), ((r504 2), .inl (cA478, 40, .inl f2521)), ((r504 3), .inl (cA478, 40, .inl f2524))] H522 := hP
  have hD : va_D A [(h0, .inr (9, [.ref w, .ref sg, .ref ad, .ref rs, .ref ro, .ref q460, .int 0, .ref q465, .int 0, .int 0, .ref q471, .int 0, .ref q477, .ref q481, .ref q485, .ref q489, .ref q493, .ref q503, .ref q508])), (q477, .inl (cA478, 60, .inl (fun _ => 0))), (q503, .inl (cA505, 10, .inr (.inr (.inr (.inr (fun i => if i < 10 then some (r504 i) else none)))))), ((r504 4), .inl (cA478, 40, .inl (fun _ => 0))), ((r504 5), .inl (cA478, 40, .inl (fun _ => 0))), ((r504 6), .inl (cA478, 40, .inl (fun _ => 0))), ((r504 7), .inl (cA478, 40, .inl (fun _ => 0))), ((r504 8), .inl (cA478, 40, .inl (fun _ => 0))), ((r504 9), .inl (cA478, 40, .inl (fun _ => 0))), ((r504 0), .inl (cA478, 40, .inl f2515)), ((r504 1), .inl (cA478, 40, .inl f2518)), ((r504 2), .inl (cA478, 40, .inl f2521)), ((r504 3), .inl (cA478, 40, .inl f2524))] := hD
  refine lv_iinc (v := 4) (lv' := [(6, .int 4), (0, .ref h0), (1, .ref w), (2, .ref sg), (3, .ref ad), (4, .ref rs), (5, .ref ro)]) hx hb dX9_init_193 hl (k := 0) rfl (by decide) (by decide) rfl (fun ls hl => ?_)
  refine lv_goto (tgt := 175) hx hb dX9_init_196 (by decide) ?_
  refine lv_iload hx hb dX9_init_175 (lv_at hl 0 rfl) ?_
  refine lv_bipush (v := 10) hx hb dX9_init_177 (by decide) ?_
  refine lv_icmp_ge (tgt := 199) hx hb dX9_init_179 (by decide) (fun h9 => absurd h9 (by decide)) (fun _ => ?_)
  refine lv_aload_n hx hb dX9_init_182 rfl (lv_at hl 1 rfl) ?_
  refine va_get (D := (dC, dI)) (ci := 9) (v := .ref q503) (C := RX9) (T := TX9) (N := 19) hx hb hts gX9 hown hK hP 0 rfl rfl 17 (by decide) (hts _ u_375) (fun _ h9 => h9) rfl dX9_init_183 ?_
  refine lv_iload hx hb dX9_init_186 (lv_at hl 0 rfl) ?_
  refine gaald hx hb hK hP 2 1 rfl rfl (by unfold vp_in; decide) dX9_init_188 ?_
  rw [show va_rf ((fun i => if i < 10 then some (r504 i) else none) (4 : Int32).toNatClampNeg) = .ref (r504 4) from rfl]
  refine lv_iconst (v := (-1)) hx hb dX9_init_189 (by decide) ?_
  have hPc := hP.sub (ws' := [((r504 4), .inl (cA478, 40, .inl (fun _ => 0)))]) [3] rfl
  have hDc := hD.sub (ws' := [((r504 4), .inl (cA478, 40, .inl (fun _ => 0)))]) [3] (by decide) rfl
  have hKc := hK.sub (tys' := [(cA478, .int)]) [0] rfl
  have hFc := va_free (wc := [((r504 4), .inl (cA478, 40, .inl (fun _ => 0)))]) hD hS hA [3] rfl
  refine va_callv (va_runS (As := [.ref (r504 4), .int (-1)]) (rest := []) ⟨hx, hb, hml, hown, hts⟩ (c_J7_fill_53178 l dC dI H522.size (r504 4) cA478 40 (by decide) (fun _ => 0) (-1)) (va_cwS 2 hts (gS u_350 u_38 u_3 u_39) rfl rfl rfl (by decide +kernel) ⟨Nat.le_of_ble_eq_true rfl, Nat.le_of_ble_eq_true rfl⟩) ⟨gP_blind, gP_call hPc hKc hDc hE⟩ rfl rfl hl.1 rfl (lv_room (Nat.le_of_ble_eq_true rfl)) dX9_init_190 ⟨(Nat.le_of_ble_eq_true rfl), (Nat.le_of_ble_eq_true rfl)⟩) hS (fun q _ h => hFc q h) hFc (fun u9 t9 H525 locs ht hvm hw hB hz1 hk1 hS => ?_)
  obtain ⟨f2527, hP1, hK1, hD1⟩ := hB
  rw [ht] at hP1
  have hK1 := va_K.moved hvm.symm hK1
  obtain ⟨hP, hD⟩ := va_join (wr := [(h0, .inr (9, [.ref w, .ref sg, .ref ad, .ref rs, .ref ro, .ref q460, .int 0, .ref q465, .int 0, .int 0, .ref q471, .int 0, .ref q477, .ref q481, .ref q485, .ref q489, .ref q493, .ref q503, .ref q508])), (q477, .inl (cA478, 60, .inl (fun _ => 0))), (q503, .inl (cA505, 10, .inr (.inr (.inr (.inr (fun i => if i < 10 then some (r504 i) else none)))))), ((r504 5), .inl (cA478, 40, .inl (fun _ => 0))), ((r504 6), .inl (cA478, 40, .inl (fun _ => 0))), ((r504 7), .inl (cA478, 40, .inl (fun _ => 0))), ((r504 8), .inl (cA478, 40, .inl (fun _ => 0))), ((r504 9), .inl (cA478, 40, .inl (fun _ => 0))), ((r504 0), .inl (cA478, 40, .inl f2515)), ((r504 1), .inl (cA478, 40, .inl f2518)), ((r504 2), .inl (cA478, 40, .inl f2521)), ((r504 3), .inl (cA478, 40, .inl f2524))]) (w1 := [((r504 4), .inl (cA478, 40, .inl f2527))]) hP hD [3] [0, 1, 2, 4, 5, 6, 7, 8, 9, 10, 11, 12] rfl rfl (by decide) (by decide) hk1 hFc hP1 hD1
  have hK := (hK.sub (tys' := [(cA478, .int), (cA505, .array .int), (cA478, .int), (cA478, .int), (cA478, .int), (cA478, .int), (cA478, .int), (cA478, .int), (cA478, .int), (cA478, .int), (cA478, .int)]) [0, 1, 0, 0, 0, 0, 0, 0, 0, 0, 0] rfl).app hK1
  have hK : va_K (dC, dI) vwCl [(cA478, .int), (cA505, .array .int), (cA478, .int), (cA478, .int), (cA478, .int), (cA478, .int), (cA478, .int), (cA478, .int), (cA478, .int), (cA478, .int), (cA478, .int), (cA478, .int)] s := hK
  have hP : va_P (dC, dI) vwCl [(h0, .inr (9, [.ref w, .ref sg, .ref ad, .ref rs, .ref ro, .ref q460, .int 0, .ref q465, .int 0, .int 0, .ref q471, .int 0, .ref q477, .ref q481, .ref q485, .ref q489, .ref q493, .ref q503, .ref q508])), (q477, .inl (cA478, 60, .inl (fun _ => 0))), (q503, .inl (cA505, 10, .inr (.inr (.inr (.inr (fun i => if i < 10 then some (r504 i) else none)))))), ((r504 5), .inl (cA478, 40, .inl (fun _ => 0))), ((r504 6), .inl (cA478, 40, .inl (fun _ => 0))), ((r504 7), .inl (cA478, 40, .inl (fun _ => 0))), ((r504 8), .inl (cA478, 40, .inl (fun _ => 0))), ((r504 9), .inl (cA478, 40, .inl (fun _ => 0))), ((r504 0), .inl (cA478, 40, .inl f2515)), ((r504 1), .inl (cA478, 40, .inl f2518)), ((r504 2), .inl (cA478, 40, .inl f2521)), ((r504 3), .inl (cA478, 40, .inl f2524)), ((r504 4), .inl (cA478, 40, .inl f2527))] H525 := hP
  have hD : va_D A [(h0, .inr (9, [.ref w, .ref sg, .ref ad, .ref rs, .ref ro, .ref q460, .int 0, .ref q465, .int 0, .int 0, .ref q471, .int 0, .ref q477, .ref q481, .ref q485, .ref q489, .ref q493, .ref q503, .ref q508])), (q477, .inl (cA478, 60, .inl (fun _ => 0))), (q503, .inl (cA505, 10, .inr (.inr (.inr (.inr (fun i => if i < 10 then some (r504 i) else none)))))), ((r504 5), .inl (cA478, 40, .inl (fun _ => 0))), ((r504 6), .inl (cA478, 40, .inl (fun _ => 0))), ((r504 7), .inl (cA478, 40, .inl (fun _ => 0))), ((r504 8), .inl (cA478, 40, .inl (fun _ => 0))), ((r504 9), .inl (cA478, 40, .inl (fun _ => 0))), ((r504 0), .inl (cA478, 40, .inl f2515)), ((r504 1), .inl (cA478, 40, .inl f2518)), ((r504 2), .inl (cA478, 40, .inl f2521)), ((r504 3), .inl (cA478, 40, .inl f2524)), ((r504 4), .inl (cA478, 40, .inl f2527))] := hD
  refine lv_iinc (v := 5) (lv' := [(6, .int 5), (0, .ref h0), (1, .ref w), (2, .ref sg), (3, .ref ad), (4, .ref rs), (5, .ref ro)]) hx hb dX9_init_193 hl (k := 0) rfl (by decide) (by decide) rfl (fun ls hl => ?_)
  refine lv_goto (tgt := 175) hx hb dX9_init_196 (by decide) ?_
  refine lv_iload hx hb dX9_init_175 (lv_at hl 0 rfl) ?_
  refine lv_bipush (v := 10) hx hb dX9_init_177 (by decide) ?_
  refine lv_icmp_ge (tgt := 199) hx hb dX9_init_179 (by decide) (fun h9 => absurd h9 (by decide)) (fun _ => ?_)
  refine lv_aload_n hx hb dX9_init_182 rfl (lv_at hl 1 rfl) ?_
  refine va_get (D := (dC, dI)) (ci := 9) (v := .ref q503) (C := RX9) (T := TX9) (N := 19) hx hb hts gX9 hown hK hP 0 rfl rfl 17 (by decide) (hts _ u_375) (fun _ h9 => h9) rfl dX9_init_183 ?_
  refine lv_iload hx hb dX9_init_186 (lv_at hl 0 rfl) ?_
  refine gaald hx hb hK hP 2 1 rfl rfl (by unfold vp_in; decide) dX9_init_188 ?_
  rw [show va_rf ((fun i => if i < 10 then some (r504 i) else none) (5 : Int32).toNatClampNeg) = .ref (r504 5) from rfl]
  refine lv_iconst (v := (-1)) hx hb dX9_init_189 (by decide) ?_
  have hPc := hP.sub (ws' := [((r504 5), .inl (cA478, 40, .inl (fun _ => 0)))]) [3] rfl
  have hDc := hD.sub (ws' := [((r504 5), .inl (cA478, 40, .inl (fun _ => 0)))]) [3] (by decide) rfl
  have hKc := hK.sub (tys' := [(cA478, .int)]) [0] rfl
  have hFc := va_free (wc := [((r504 5), .inl (cA478, 40, .inl (fun _ => 0)))]) hD hS hA [3] rfl
  refine va_callv (va_runS (As := [.ref (r504 5), .int (-1)]) (rest := []) ⟨hx, hb, hml, hown, hts⟩ (c_J7_fill_53178 l dC dI H525.size (r504 5) cA478 40 (by decide) (fun _ => 0) (-1)) (va_cwS 2 hts (gS u_350 u_38 u_3 u_39) rfl rfl rfl (by decide +kernel) ⟨Nat.le_of_ble_eq_true rfl, Nat.le_of_ble_eq_true rfl⟩) ⟨gP_blind, gP_call hPc hKc hDc hE⟩ rfl rfl hl.1 rfl (lv_room (Nat.le_of_ble_eq_true rfl)) dX9_init_190 ⟨(Nat.le_of_ble_eq_true rfl), (Nat.le_of_ble_eq_true rfl)⟩) hS (fun q _ h => hFc q h) hFc (fun u9 t9 H528 locs ht hvm hw hB hz1 hk1 hS => ?_)
  obtain ⟨f2530, hP1, hK1, hD1⟩ := hB
  rw [ht] at hP1
  have hK1 := va_K.moved hvm.symm hK1
  obtain ⟨hP, hD⟩ := va_join (wr := [(h0, .inr (9, [.ref w, .ref sg, .ref ad, .ref rs, .ref ro, .ref q460, .int 0, .ref q465, .int 0, .int 0, .ref q471, .int 0, .ref q477, .ref q481, .ref q485, .ref q489, .ref q493, .ref q503, .ref q508])), (q477, .inl (cA478, 60, .inl (fun _ => 0))), (q503, .inl (cA505, 10, .inr (.inr (.inr (.inr (fun i => if i < 10 then some (r504 i) else none)))))), ((r504 6), .inl (cA478, 40, .inl (fun _ => 0))), ((r504 7), .inl (cA478, 40, .inl (fun _ => 0))), ((r504 8), .inl (cA478, 40, .inl (fun _ => 0))), ((r504 9), .inl (cA478, 40, .inl (fun _ => 0))), ((r504 0), .inl (cA478, 40, .inl f2515)), ((r504 1), .inl (cA478, 40, .inl f2518)), ((r504 2), .inl (cA478, 40, .inl f2521)), ((r504 3), .inl (cA478, 40, .inl f2524)), ((r504 4), .inl (cA478, 40, .inl f2527))]) (w1 := [((r504 5), .inl (cA478, 40, .inl f2530))]) hP hD [3] [0, 1, 2, 4, 5, 6, 7, 8, 9, 10, 11, 12] rfl rfl (by decide) (by decide) hk1 hFc hP1 hD1
  have hK := (hK.sub (tys' := [(cA478, .int), (cA505, .array .int), (cA478, .int), (cA478, .int), (cA478, .int), (cA478, .int), (cA478, .int), (cA478, .int), (cA478, .int), (cA478, .int), (cA478, .int)]) [0, 1, 0, 0, 0, 0, 0, 0, 0, 0, 0] rfl).app hK1
  have hK : va_K (dC, dI) vwCl [(cA478, .int), (cA505, .array .int), (cA478, .int), (cA478, .int), (cA478, .int), (cA478, .int), (cA478, .int), (cA478, .int), (cA478, .int), (cA478, .int), (cA478, .int), (cA478, .int)] s := hK
  have hP : va_P (dC, dI) vwCl [(h0, .inr (9, [.ref w, .ref sg, .ref ad, .ref rs, .ref ro, .ref q460, .int 0, .ref q465, .int 0, .int 0, .ref q471, .int 0, .ref q477, .ref q481, .ref q485, .ref q489, .ref q493, .ref q503, .ref q508])), (q477, .inl (cA478, 60, .inl (fun _ => 0))), (q503, .inl (cA505, 10, .inr (.inr (.inr (.inr (fun i => if i < 10 then some (r504 i) else none)))))), ((r504 6), .inl (cA478, 40, .inl (fun _ => 0))), ((r504 7), .inl (cA478, 40, .inl (fun _ => 0))), ((r504 8), .inl (cA478, 40, .inl (fun _ => 0))), ((r504 9), .inl (cA478, 40, .inl (fun _ => 0))), ((r504 0), .inl (cA478, 40, .inl f2515)), ((r504 1), .inl (cA478, 40, .inl f2518)), ((r504 2), .inl (cA478, 40, .inl f2521)), ((r504 3), .inl (cA478, 40, .inl f2524)), ((r504 4), .inl (cA478, 40, .inl f2527)), ((r504 5), .inl (cA478, 40, .inl f2530))] H528 := hP
  have hD : va_D A [(h0, .inr (9, [.ref w, .ref sg, .ref ad, .ref rs, .ref ro, .ref q460, .int 0, .ref q465, .int 0, .int 0, .ref q471, .int 0, .ref q477, .ref q481, .ref q485, .ref q489, .ref q493, .ref q503, .ref q508])), (q477, .inl (cA478, 60, .inl (fun _ => 0))), (q503, .inl (cA505, 10, .inr (.inr (.inr (.inr (fun i => if i < 10 then some (r504 i) else none)))))), ((r504 6), .inl (cA478, 40, .inl (fun _ => 0))), ((r504 7), .inl (cA478, 40, .inl (fun _ => 0))), ((r504 8), .inl (cA478, 40, .inl (fun _ => 0))), ((r504 9), .inl (cA478, 40, .inl (fun _ => 0))), ((r504 0), .inl (cA478, 40, .inl f2515)), ((r504 1), .inl (cA478, 40, .inl f2518)), ((r504 2), .inl (cA478, 40, .inl f2521)), ((r504 3), .inl (cA478, 40, .inl f2524)), ((r504 4), .inl (cA478, 40, .inl f2527)), ((r504 5), .inl (cA478, 40, .inl f2530))] := hD
  refine lv_iinc (v := 6) (lv' := [(6, .int 6), (0, .ref h0), (1, .ref w), (2, .ref sg), (3, .ref ad), (4, .ref rs), (5, .ref ro)]) hx hb dX9_init_193 hl (k := 0) rfl (by decide) (by decide) rfl (fun ls hl => ?_)
  refine lv_goto (tgt := 175) hx hb dX9_init_196 (by decide) ?_
  refine lv_iload hx hb dX9_init_175 (lv_at hl 0 rfl) ?_
  refine lv_bipush (v := 10) hx hb dX9_init_177 (by decide) ?_
  refine lv_icmp_ge (tgt := 199) hx hb dX9_init_179 (by decide) (fun h9 => absurd h9 (by decide)) (fun _ => ?_)
  refine lv_aload_n hx hb dX9_init_182 rfl (lv_at hl 1 rfl) ?_
  refine va_get (D := (dC, dI)) (ci := 9) (v := .ref q503) (C := RX9) (T := TX9) (N := 19) hx hb hts gX9 hown hK hP 0 rfl rfl 17 (by decide) (hts _ u_375) (fun _ h9 => h9) rfl dX9_init_183 ?_
  refine lv_iload hx hb dX9_init_186 (lv_at hl 0 rfl) ?_
  refine gaald hx hb hK hP 2 1 rfl rfl (by unfold vp_in; decide) dX9_init_188 ?_
  rw [show va_rf ((fun i => if i < 10 then some (r504 i) else none) (6 : Int32).toNatClampNeg) = .ref (r504 6) from rfl]
  refine lv_iconst (v := (-1)) hx hb dX9_init_189 (by decide) ?_
  have hPc := hP.sub (ws' := [((r504 6), .inl (cA478, 40, .inl (fun _ => 0)))]) [3] rfl
  have hDc := hD.sub (ws' := [((r504 6), .inl (cA478, 40, .inl (fun _ => 0)))]) [3] (by decide) rfl
  have hKc := hK.sub (tys' := [(cA478, .int)]) [0] rfl
  have hFc := va_free (wc := [((r504 6), .inl (cA478, 40, .inl (fun _ => 0)))]) hD hS hA [3] rfl
  refine va_callv (va_runS (As := [.ref (r504 6), .int (-1)]) (rest := []) ⟨hx, hb, hml, hown, hts⟩ (c_J7_fill_53178 l dC dI H528.size (r504 6) cA478 40 (by decide) (fun _ => 0) (-1)) (va_cwS 2 hts (gS u_350 u_38 u_3 u_39) rfl rfl rfl (by decide +kernel) ⟨Nat.le_of_ble_eq_true rfl, Nat.le_of_ble_eq_true rfl⟩) ⟨gP_blind, gP_call hPc hKc hDc hE⟩ rfl rfl hl.1 rfl (lv_room (Nat.le_of_ble_eq_true rfl)) dX9_init_190 ⟨(Nat.le_of_ble_eq_true rfl), (Nat.le_of_ble_eq_true rfl)⟩) hS (fun q _ h => hFc q h) hFc (fun u9 t9 H531 locs ht hvm hw hB hz1 hk1 hS => ?_)
  obtain ⟨f2533, hP1, hK1, hD1⟩ := hB
  rw [ht] at hP1
  have hK1 := va_K.moved hvm.symm hK1
  obtain ⟨hP, hD⟩ := va_join (wr := [(h0, .inr (9, [.ref w, .ref sg, .ref ad, .ref rs, .ref ro, .ref q460, .int 0, .ref q465, .int 0, .int 0, .ref q471, .int 0, .ref q477, .ref q481, .ref q485, .ref q489, .ref q493, .ref q503, .ref q508])), (q477, .inl (cA478, 60, .inl (fun _ => 0))), (q503, .inl (cA505, 10, .inr (.inr (.inr (.inr (fun i => if i < 10 then some (r504 i) else none)))))), ((r504 7), .inl (cA478, 40, .inl (fun _ => 0))), ((r504 8), .inl (cA478, 40, .inl (fun _ => 0))), ((r504 9), .inl (cA478, 40, .inl (fun _ => 0))), ((r504 0), .inl (cA478, 40, .inl f2515)), ((r504 1), .inl (cA478, 40, .inl f2518)), ((r504 2), .inl (cA478, 40, .inl f2521)), ((r504 3), .inl (cA478, 40, .inl f2524)), ((r504 4), .inl (cA478, 40, .inl f2527)), ((r504 5), .inl (cA478, 40, .inl f2530))]) (w1 := [((r504 6), .inl (cA478, 40, .inl f2533))]) hP hD [3] [0, 1, 2, 4, 5, 6, 7, 8, 9, 10, 11, 12] rfl rfl (by decide) (by decide) hk1 hFc hP1 hD1
  have hK := (hK.sub (tys' := [(cA478, .int), (cA505, .array .int), (cA478, .int), (cA478, .int), (cA478, .int), (cA478, .int), (cA478, .int), (cA478, .int), (cA478, .int), (cA478, .int), (cA478, .int)]) [0, 1, 0, 0, 0, 0, 0, 0, 0, 0, 0] rfl).app hK1
  have hK : va_K (dC, dI) vwCl [(cA478, .int), (cA505, .array .int), (cA478, .int), (cA478, .int), (cA478, .int), (cA478, .int), (cA478, .int), (cA478, .int), (cA478, .int), (cA478, .int), (cA478, .int), (cA478, .int)] s := hK
  have hP : va_P (dC, dI) vwCl [(h0, .inr (9, [.ref w, .ref sg, .ref ad, .ref rs, .ref ro, .ref q460, .int 0, .ref q465, .int 0, .int 0, .ref q471, .int 0, .ref q477, .ref q481, .ref q485, .ref q489, .ref q493, .ref q503, .ref q508])), (q477, .inl (cA478, 60, .inl (fun _ => 0))), (q503, .inl (cA505, 10, .inr (.inr (.inr (.inr (fun i => if i < 10 then some (r504 i) else none)))))), ((r504 7), .inl (cA478, 40, .inl (fun _ => 0))), ((r504 8), .inl (cA478, 40, .inl (fun _ => 0))), ((r504 9), .inl (cA478, 40, .inl (fun _ => 0))), ((r504 0), .inl (cA478, 40, .inl f2515)), ((r504 1), .inl (cA478, 40, .inl f2518)), ((r504 2), .inl (cA478, 40, .inl f2521)), ((r504 3), .inl (cA478, 40, .inl f2524)), ((r504 4), .inl (cA478, 40, .inl f2527)), ((r504 5), .inl (cA478, 40, .inl f2530)), ((r504 6), .inl (cA478, 40, .inl f2533))] H531 := hP
  have hD : va_D A [(h0, .inr (9, [.ref w, .ref sg, .ref ad, .ref rs, .ref ro, .ref q460, .int 0, .ref q465, .int 0, .int 0, .ref q471, .int 0, .ref q477, .ref q481, .ref q485, .ref q489, .ref q493, .ref q503, .ref q508])), (q477, .inl (cA478, 60, .inl (fun _ => 0))), (q503, .inl (cA505, 10, .inr (.inr (.inr (.inr (fun i => if i < 10 then some (r504 i) else none)))))), ((r504 7), .inl (cA478, 40, .inl (fun _ => 0))), ((r504 8), .inl (cA478, 40, .inl (fun _ => 0))), ((r504 9), .inl (cA478, 40, .inl (fun _ => 0))), ((r504 0), .inl (cA478, 40, .inl f2515)), ((r504 1), .inl (cA478, 40, .inl f2518)), ((r504 2), .inl (cA478, 40, .inl f2521)), ((r504 3), .inl (cA478, 40, .inl f2524)), ((r504 4), .inl (cA478, 40, .inl f2527)), ((r504 5), .inl (cA478, 40, .inl f2530)), ((r504 6), .inl (cA478, 40, .inl f2533))] := hD
  refine lv_iinc (v := 7) (lv' := [(6, .int 7), (0, .ref h0), (1, .ref w), (2, .ref sg), (3, .ref ad), (4, .ref rs), (5, .ref ro)]) hx hb dX9_init_193 hl (k := 0) rfl (by decide) (by decide) rfl (fun ls hl => ?_)
  refine lv_goto (tgt := 175) hx hb dX9_init_196 (by decide) ?_
  refine lv_iload hx hb dX9_init_175 (lv_at hl 0 rfl) ?_
  refine lv_bipush (v := 10) hx hb dX9_init_177 (by decide) ?_
  refine lv_icmp_ge (tgt := 199) hx hb dX9_init_179 (by decide) (fun h9 => absurd h9 (by decide)) (fun _ => ?_)
  refine lv_aload_n hx hb dX9_init_182 rfl (lv_at hl 1 rfl) ?_
  refine va_get (D := (dC, dI)) (ci := 9) (v := .ref q503) (C := RX9) (T := TX9) (N := 19) hx hb hts gX9 hown hK hP 0 rfl rfl 17 (by decide) (hts _ u_375) (fun _ h9 => h9) rfl dX9_init_183 ?_
  refine lv_iload hx hb dX9_init_186 (lv_at hl 0 rfl) ?_
  refine gaald hx hb hK hP 2 1 rfl rfl (by unfold vp_in; decide) dX9_init_188 ?_
  rw [show va_rf ((fun i => if i < 10 then some (r504 i) else none) (7 : Int32).toNatClampNeg) = .ref (r504 7) from rfl]
  refine lv_iconst (v := (-1)) hx hb dX9_init_189 (by decide) ?_
  have hPc := hP.sub (ws' := [((r504 7), .inl (cA478, 40, .inl (fun _ => 0)))]) [3] rfl
  have hDc := hD.sub (ws' := [((r504 7), .inl (cA478, 40, .inl (fun _ => 0)))]) [3] (by decide) rfl
  have hKc := hK.sub (tys' := [(cA478, .int)]) [0] rfl
  have hFc := va_free (wc := [((r504 7), .inl (cA478, 40, .inl (fun _ => 0)))]) hD hS hA [3] rfl
  refine va_callv (va_runS (As := [.ref (r504 7), .int (-1)]) (rest := []) ⟨hx, hb, hml, hown, hts⟩ (c_J7_fill_53178 l dC dI H531.size (r504 7) cA478 40 (by decide) (fun _ => 0) (-1)) (va_cwS 2 hts (gS u_350 u_38 u_3 u_39) rfl rfl rfl (by decide +kernel) ⟨Nat.le_of_ble_eq_true rfl, Nat.le_of_ble_eq_true rfl⟩) ⟨gP_blind, gP_call hPc hKc hDc hE⟩ rfl rfl hl.1 rfl (lv_room (Nat.le_of_ble_eq_true rfl)) dX9_init_190 ⟨(Nat.le_of_ble_eq_true rfl), (Nat.le_of_ble_eq_true rfl)⟩) hS (fun q _ h => hFc q h) hFc (fun u9 t9 H534 locs ht hvm hw hB hz1 hk1 hS => ?_)
  obtain ⟨f2536, hP1, hK1, hD1⟩ := hB
  rw [ht] at hP1
  have hK1 := va_K.moved hvm.symm hK1
  obtain ⟨hP, hD⟩ := va_join (wr := [(h0, .inr (9, [.ref w, .ref sg, .ref ad, .ref rs, .ref ro, .ref q460, .int 0, .ref q465, .int 0, .int 0, .ref q471, .int 0, .ref q477, .ref q481, .ref q485, .ref q489, .ref q493, .ref q503, .ref q508])), (q477, .inl (cA478, 60, .inl (fun _ => 0))), (q503, .inl (cA505, 10, .inr (.inr (.inr (.inr (fun i => if i < 10 then some (r504 i) else none)))))), ((r504 8), .inl (cA478, 40, .inl (fun _ => 0))), ((r504 9), .inl (cA478, 40, .inl (fun _ => 0))), ((r504 0), .inl (cA478, 40, .inl f2515)), ((r504 1), .inl (cA478, 40, .inl f2518)), ((r504 2), .inl (cA478, 40, .inl f2521)), ((r504 3), .inl (cA478, 40, .inl f2524)), ((r504 4), .inl (cA478, 40, .inl f2527)), ((r504 5), .inl (cA478, 40, .inl f2530)), ((r504 6), .inl (cA478, 40, .inl f2533))]) (w1 := [((r504 7), .inl (cA478, 40, .inl f2536))]) hP hD [3] [0, 1, 2, 4, 5, 6, 7, 8, 9, 10, 11, 12] rfl rfl (by decide) (by decide) hk1 hFc hP1 hD1
  have hK := (hK.sub (tys' := [(cA478, .int), (cA505, .array .int), (cA478, .int), (cA478, .int), (cA478, .int), (cA478, .int), (cA478, .int), (cA478, .int), (cA478, .int), (cA478, .int), (cA478, .int)]) [0, 1, 0, 0, 0, 0, 0, 0, 0, 0, 0] rfl).app hK1
  have hK : va_K (dC, dI) vwCl [(cA478, .int), (cA505, .array .int), (cA478, .int), (cA478, .int), (cA478, .int), (cA478, .int), (cA478, .int), (cA478, .int), (cA478, .int), (cA478, .int), (cA478, .int), (cA478, .int)] s := hK
  have hP : va_P (dC, dI) vwCl [(h0, .inr (9, [.ref w, .ref sg, .ref ad, .ref rs, .ref ro, .ref q460, .int 0, .ref q465, .int 0, .int 0, .ref q471, .int 0, .ref q477, .ref q481, .ref q485, .ref q489, .ref q493, .ref q503, .ref q508])), (q477, .inl (cA478, 60, .inl (fun _ => 0))), (q503, .inl (cA505, 10, .inr (.inr (.inr (.inr (fun i => if i < 10 then some (r504 i) else none)))))), ((r504 8), .inl (cA478, 40, .inl (fun _ => 0))), ((r504 9), .inl (cA478, 40, .inl (fun _ => 0))), ((r504 0), .inl (cA478, 40, .inl f2515)), ((r504 1), .inl (cA478, 40, .inl f2518)), ((r504 2), .inl (cA478, 40, .inl f2521)), ((r504 3), .inl (cA478, 40, .inl f2524)), ((r504 4), .inl (cA478, 40, .inl f2527)), ((r504 5), .inl (cA478, 40, .inl f2530)), ((r504 6), .inl (cA478, 40, .inl f2533)), ((r504 7), .inl (cA478, 40, .inl f2536))] H534 := hP
  have hD : va_D A [(h0, .inr (9, [.ref w, .ref sg, .ref ad, .ref rs, .ref ro, .ref q460, .int 0, .ref q465, .int 0, .int 0, .ref q471, .int 0, .ref q477, .ref q481, .ref q485, .ref q489, .ref q493, .ref q503, .ref q508])), (q477, .inl (cA478, 60, .inl (fun _ => 0))), (q503, .inl (cA505, 10, .inr (.inr (.inr (.inr (fun i => if i < 10 then some (r504 i) else none)))))), ((r504 8), .inl (cA478, 40, .inl (fun _ => 0))), ((r504 9), .inl (cA478, 40, .inl (fun _ => 0))), ((r504 0), .inl (cA478, 40, .inl f2515)), ((r504 1), .inl (cA478, 40, .inl f2518)), ((r504 2), .inl (cA478, 40, .inl f2521)), ((r504 3), .inl (cA478, 40, .inl f2524)), ((r504 4), .inl (cA478, 40, .inl f2527)), ((r504 5), .inl (cA478, 40, .inl f2530)), ((r504 6), .inl (cA478, 40, .inl f2533)), ((r504 7), .inl (cA478, 40, .inl f2536))] := hD
  refine lv_iinc (v := 8) (lv' := [(6, .int 8), (0, .ref h0), (1, .ref w), (2, .ref sg), (3, .ref ad), (4, .ref rs), (5, .ref ro)]) hx hb dX9_init_193 hl (k := 0) rfl (by decide) (by decide) rfl (fun ls hl => ?_)
  refine lv_goto (tgt := 175) hx hb dX9_init_196 (by decide) ?_
  refine lv_iload hx hb dX9_init_175 (lv_at hl 0 rfl) ?_
  refine lv_bipush (v := 10) hx hb dX9_init_177 (by decide) ?_
  refine lv_icmp_ge (tgt := 199) hx hb dX9_init_179 (by decide) (fun h9 => absurd h9 (by decide)) (fun _ => ?_)
  refine lv_aload_n hx hb dX9_init_182 rfl (lv_at hl 1 rfl) ?_
  refine va_get (D := (dC, dI)) (ci := 9) (v := .ref q503) (C := RX9) (T := TX9) (N := 19) hx hb hts gX9 hown hK hP 0 rfl rfl 17 (by decide) (hts _ u_375) (fun _ h9 => h9) rfl dX9_init_183 ?_
  refine lv_iload hx hb dX9_init_186 (lv_at hl 0 rfl) ?_
  refine gaald hx hb hK hP 2 1 rfl rfl (by unfold vp_in; decide) dX9_init_188 ?_
  rw [show va_rf ((fun i => if i < 10 then some (r504 i) else none) (8 : Int32).toNatClampNeg) = .ref (r504 8) from rfl]
  refine lv_iconst (v := (-1)) hx hb dX9_init_189 (by decide) ?_
  have hPc := hP.sub (ws' := [((r504 8), .inl (cA478, 40, .inl (fun _ => 0)))]) [3] rfl
  have hDc := hD.sub (ws' := [((r504 8), .inl (cA478, 40, .inl (fun _ => 0)))]) [3] (by decide) rfl
  have hKc := hK.sub (tys' := [(cA478, .int)]) [0] rfl
  have hFc := va_free (wc := [((r504 8), .inl (cA478, 40, .inl (fun _ => 0)))]) hD hS hA [3] rfl
  refine va_callv (va_runS (As := [.ref (r504 8), .int (-1)]) (rest := []) ⟨hx, hb, hml, hown, hts⟩ (c_J7_fill_53178 l dC dI H534.size (r504 8) cA478 40 (by decide) (fun _ => 0) (-1)) (va_cwS 2 hts (gS u_350 u_38 u_3 u_39) rfl rfl rfl (by decide +kernel) ⟨Nat.le_of_ble_eq_true rfl, Nat.le_of_ble_eq_true rfl⟩) ⟨gP_blind, gP_call hPc hKc hDc hE⟩ rfl rfl hl.1 rfl (lv_room (Nat.le_of_ble_eq_true rfl)) dX9_init_190 ⟨(Nat.le_of_ble_eq_true rfl), (Nat.le_of_ble_eq_true rfl)⟩) hS (fun q _ h => hFc q h) hFc (fun u9 t9 H537 locs ht hvm hw hB hz1 hk1 hS => ?_)
  obtain ⟨f2539, hP1, hK1, hD1⟩ := hB
  rw [ht] at hP1
  have hK1 := va_K.moved hvm.symm hK1
  obtain ⟨hP, hD⟩ := va_join (wr := [(h0, .inr (9, [.ref w, .ref sg, .ref ad, .ref rs, .ref ro, .ref q460, .int 0, .ref q465, .int 0, .int 0, .ref q471, .int 0, .ref q477, .ref q481, .ref q485, .ref q489, .ref q493, .ref q503, .ref q508])), (q477, .inl (cA478, 60, .inl (fun _ => 0))), (q503, .inl (cA505, 10, .inr (.inr (.inr (.inr (fun i => if i < 10 then some (r504 i) else none)))))), ((r504 9), .inl (cA478, 40, .inl (fun _ => 0))), ((r504 0), .inl (cA478, 40, .inl f2515)), ((r504 1), .inl (cA478, 40, .inl f2518)), ((r504 2), .inl (cA478, 40, .inl f2521)), ((r504 3), .inl (cA478, 40, .inl f2524)), ((r504 4), .inl (cA478, 40, .inl f2527)), ((r504 5), .inl (cA478, 40, .inl f2530)), ((r504 6), .inl (cA478, 40, .inl f2533)), ((r504 7), .inl (cA478, 40, .inl f2536))]) (w1 := [((r504 8), .inl (cA478, 40, .inl f2539))]) hP hD [3] [0, 1, 2, 4, 5, 6, 7, 8, 9, 10, 11, 12] rfl rfl (by decide) (by decide) hk1 hFc hP1 hD1
  have hK := (hK.sub (tys' := [(cA478, .int), (cA505, .array .int), (cA478, .int), (cA478, .int), (cA478, .int), (cA478, .int), (cA478, .int), (cA478, .int), (cA478, .int), (cA478, .int), (cA478, .int)]) [0, 1, 0, 0, 0, 0, 0, 0, 0, 0, 0] rfl).app hK1
  have hK : va_K (dC, dI) vwCl [(cA478, .int), (cA505, .array .int), (cA478, .int), (cA478, .int), (cA478, .int), (cA478, .int), (cA478, .int), (cA478, .int), (cA478, .int), (cA478, .int), (cA478, .int), (cA478, .int)] s := hK
  have hP : va_P (dC, dI) vwCl [(h0, .inr (9, [.ref w, .ref sg, .ref ad, .ref rs, .ref ro, .ref q460, .int 0, .ref q465, .int 0, .int 0, .ref q471, .int 0, .ref q477, .ref q481, .ref q485, .ref q489, .ref q493, .ref q503, .ref q508])), (q477, .inl (cA478, 60, .inl (fun _ => 0))), (q503, .inl (cA505, 10, .inr (.inr (.inr (.inr (fun i => if i < 10 then some (r504 i) else none)))))), ((r504 9), .inl (cA478, 40, .inl (fun _ => 0))), ((r504 0), .inl (cA478, 40, .inl f2515)), ((r504 1), .inl (cA478, 40, .inl f2518)), ((r504 2), .inl (cA478, 40, .inl f2521)), ((r504 3), .inl (cA478, 40, .inl f2524)), ((r504 4), .inl (cA478, 40, .inl f2527)), ((r504 5), .inl (cA478, 40, .inl f2530)), ((r504 6), .inl (cA478, 40, .inl f2533)), ((r504 7), .inl (cA478, 40, .inl f2536)), ((r504 8), .inl (cA478, 40, .inl f2539))] H537 := hP
  have hD : va_D A [(h0, .inr (9, [.ref w, .ref sg, .ref ad, .ref rs, .ref ro, .ref q460, .int 0, .ref q465, .int 0, .int 0, .ref q471, .int 0, .ref q477, .ref q481, .ref q485, .ref q489, .ref q493, .ref q503, .ref q508])), (q477, .inl (cA478, 60, .inl (fun _ => 0))), (q503, .inl (cA505, 10, .inr (.inr (.inr (.inr (fun i => if i < 10 then some (r504 i) else none)))))), ((r504 9), .inl (cA478, 40, .inl (fun _ => 0))), ((r504 0), .inl (cA478, 40, .inl f2515)), ((r504 1), .inl (cA478, 40, .inl f2518)), ((r504 2), .inl (cA478, 40, .inl f2521)), ((r504 3), .inl (cA478, 40, .inl f2524)), ((r504 4), .inl (cA478, 40, .inl f2527)), ((r504 5), .inl (cA478, 40, .inl f2530)), ((r504 6), .inl (cA478, 40, .inl f2533)), ((r504 7), .inl (cA478, 40, .inl f2536)), ((r504 8), .inl (cA478, 40, .inl f2539))] := hD
  refine lv_iinc (v := 9) (lv' := [(6, .int 9), (0, .ref h0), (1, .ref w), (2, .ref sg), (3, .ref ad), (4, .ref rs), (5, .ref ro)]) hx hb dX9_init_193 hl (k := 0) rfl (by decide) (by decide) rfl (fun ls hl => ?_)
  refine lv_goto (tgt := 175) hx hb dX9_init_196 (by decide) ?_
  refine lv_iload hx hb dX9_init_175 (lv_at hl 0 rfl) ?_
  refine lv_bipush (v := 10) hx hb dX9_init_177 (by decide) ?_
  refine lv_icmp_ge (tgt := 199) hx hb dX9_init_179 (by decide) (fun h9 => absurd h9 (by decide)) (fun _ => ?_)
  refine lv_aload_n hx hb dX9_init_182 rfl (lv_at hl 1 rfl) ?_
  refine va_get (D := (dC, dI)) (ci := 9) (v := .ref q503) (C := RX9) (T := TX9) (N := 19) hx hb hts gX9 hown hK hP 0 rfl rfl 17 (by decide) (hts _ u_375) (fun _ h9 => h9) rfl dX9_init_183 ?_
  refine lv_iload hx hb dX9_init_186 (lv_at hl 0 rfl) ?_
  refine gaald hx hb hK hP 2 1 rfl rfl (by unfold vp_in; decide) dX9_init_188 ?_
  rw [show va_rf ((fun i => if i < 10 then some (r504 i) else none) (9 : Int32).toNatClampNeg) = .ref (r504 9) from rfl]
  refine lv_iconst (v := (-1)) hx hb dX9_init_189 (by decide) ?_
  have hPc := hP.sub (ws' := [((r504 9), .inl (cA478, 40, .inl (fun _ => 0)))]) [3] rfl
  have hDc := hD.sub (ws' := [((r504 9), .inl (cA478, 40, .inl (fun _ => 0)))]) [3] (by decide) rfl
  have hKc := hK.sub (tys' := [(cA478, .int)]) [0] rfl
  have hFc := va_free (wc := [((r504 9), .inl (cA478, 40, .inl (fun _ => 0)))]) hD hS hA [3] rfl
  refine va_callv (va_runS (As := [.ref (r504 9), .int (-1)]) (rest := []) ⟨hx, hb, hml, hown, hts⟩ (c_J7_fill_53178 l dC dI H537.size (r504 9) cA478 40 (by decide) (fun _ => 0) (-1)) (va_cwS 2 hts (gS u_350 u_38 u_3 u_39) rfl rfl rfl (by decide +kernel) ⟨Nat.le_of_ble_eq_true rfl, Nat.le_of_ble_eq_true rfl⟩) ⟨gP_blind, gP_call hPc hKc hDc hE⟩ rfl rfl hl.1 rfl (lv_room (Nat.le_of_ble_eq_true rfl)) dX9_init_190 ⟨(Nat.le_of_ble_eq_true rfl), (Nat.le_of_ble_eq_true rfl)⟩) hS (fun q _ h => hFc q h) hFc (fun u9 t9 H540 locs ht hvm hw hB hz1 hk1 hS => ?_)
  obtain ⟨f2542, hP1, hK1, hD1⟩ := hB
  rw [ht] at hP1
  have hK1 := va_K.moved hvm.symm hK1
  obtain ⟨hP, hD⟩ := va_join (wr := [(h0, .inr (9, [.ref w, .ref sg, .ref ad, .ref rs, .ref ro, .ref q460, .int 0, .ref q465, .int 0, .int 0, .ref q471, .int 0, .ref q477, .ref q481, .ref q485, .ref q489, .ref q493, .ref q503, .ref q508])), (q477, .inl (cA478, 60, .inl (fun _ => 0))), (q503, .inl (cA505, 10, .inr (.inr (.inr (.inr (fun i => if i < 10 then some (r504 i) else none)))))), ((r504 0), .inl (cA478, 40, .inl f2515)), ((r504 1), .inl (cA478, 40, .inl f2518)), ((r504 2), .inl (cA478, 40, .inl f2521)), ((r504 3), .inl (cA478, 40, .inl f2524)), ((r504 4), .inl (cA478, 40, .inl f2527)), ((r504 5), .inl (cA478, 40, .inl f2530)), ((r504 6), .inl (cA478, 40, .inl f2533)), ((r504 7), .inl (cA478, 40, .inl f2536)), ((r504 8), .inl (cA478, 40, .inl f2539))]) (w1 := [((r504 9), .inl (cA478, 40, .inl f2542))]) hP hD [3] [0, 1, 2, 4, 5, 6, 7, 8, 9, 10, 11, 12] rfl rfl (by decide) (by decide) hk1 hFc hP1 hD1
  have hK := (hK.sub (tys' := [(cA478, .int), (cA505, .array .int), (cA478, .int), (cA478, .int), (cA478, .int), (cA478, .int), (cA478, .int), (cA478, .int), (cA478, .int), (cA478, .int), (cA478, .int)]) [0, 1, 0, 0, 0, 0, 0, 0, 0, 0, 0] rfl).app hK1
  have hK : va_K (dC, dI) vwCl [(cA478, .int), (cA505, .array .int), (cA478, .int), (cA478, .int), (cA478, .int), (cA478, .int), (cA478, .int), (cA478, .int), (cA478, .int), (cA478, .int), (cA478, .int), (cA478, .int)] s := hK
  have hP : va_P (dC, dI) vwCl [(h0, .inr (9, [.ref w, .ref sg, .ref ad, .ref rs, .ref ro, .ref q460, .int 0, .ref q465, .int 0, .int 0, .ref q471, .int 0, .ref q477, .ref q481, .ref q485, .ref q489, .ref q493, .ref q503, .ref q508])), (q477, .inl (cA478, 60, .inl (fun _ => 0))), (q503, .inl (cA505, 10, .inr (.inr (.inr (.inr (fun i => if i < 10 then some (r504 i) else none)))))), ((r504 0), .inl (cA478, 40, .inl f2515)), ((r504 1), .inl (cA478, 40, .inl f2518)), ((r504 2), .inl (cA478, 40, .inl f2521)), ((r504 3), .inl (cA478, 40, .inl f2524)), ((r504 4), .inl (cA478, 40, .inl f2527)), ((r504 5), .inl (cA478, 40, .inl f2530)), ((r504 6), .inl (cA478, 40, .inl f2533)), ((r504 7), .inl (cA478, 40, .inl f2536)), ((r504 8), .inl (cA478, 40, .inl f2539)), ((r504 9), .inl (cA478, 40, .inl f2542))] H540 := hP
  have hD : va_D A [(h0, .inr (9, [.ref w, .ref sg, .ref ad, .ref rs, .ref ro, .ref q460, .int 0, .ref q465, .int 0, .int 0, .ref q471, .int 0, .ref q477, .ref q481, .ref q485, .ref q489, .ref q493, .ref q503, .ref q508])), (q477, .inl (cA478, 60, .inl (fun _ => 0))), (q503, .inl (cA505, 10, .inr (.inr (.inr (.inr (fun i => if i < 10 then some (r504 i) else none)))))), ((r504 0), .inl (cA478, 40, .inl f2515)), ((r504 1), .inl (cA478, 40, .inl f2518)), ((r504 2), .inl (cA478, 40, .inl f2521)), ((r504 3), .inl (cA478, 40, .inl f2524)), ((r504 4), .inl (cA478, 40, .inl f2527)), ((r504 5), .inl (cA478, 40, .inl f2530)), ((r504 6), .inl (cA478, 40, .inl f2533)), ((r504 7), .inl (cA478, 40, .inl f2536)), ((r504 8), .inl (cA478, 40, .inl f2539)), ((r504 9), .inl (cA478, 40, .inl f2542))] := hD
  refine lv_iinc (v := 10) (lv' := [(6, .int 10), (0, .ref h0), (1, .ref w), (2, .ref sg), (3, .ref ad), (4, .ref rs), (5, .ref ro)]) hx hb dX9_init_193 hl (k := 0) rfl (by decide) (by decide) rfl (fun ls hl => ?_)
  refine lv_goto (tgt := 175) hx hb dX9_init_196 (by decide) ?_
  refine lv_iload hx hb dX9_init_175 (lv_at hl 0 rfl) ?_
  refine lv_bipush (v := 10) hx hb dX9_init_177 (by decide) ?_
  refine lv_icmp_ge (tgt := 199) hx hb dX9_init_179 (by decide) (fun _ => ?_) (fun h9 => absurd (by decide) h9)
  have hP := hP.sub (ws' := [(h0, .inr (9, [.ref w, .ref sg, .ref ad, .ref rs, .ref ro, .ref q460, .int 0, .ref q465, .int 0, .int 0, .ref q471, .int 0, .ref q477, .ref q481, .ref q485, .ref q489, .ref q493, .ref q503, .ref q508]))]) [0] rfl
  have hD := hD.sub (ws' := [(h0, .inr (9, [.ref w, .ref sg, .ref ad, .ref rs, .ref ro, .ref q460, .int 0, .ref q465, .int 0, .int 0, .ref q471, .int 0, .ref q477, .ref q481, .ref q485, .ref q489, .ref q493, .ref q503, .ref q508]))]) [0] (by decide) rfl
  have hK := hK.sub (tys' := []) [] rfl
  refine W.widen (k := 97) (n := 5812) (Nat.le_of_ble_eq_true rfl) (Nat.le_of_ble_eq_true rfl) ?_
  exact W.vret hx hb hr (fun t ht hW => ⟨⟨(), rfl, trivial, ⟨(fun k => [ad, rs, q460, q465, q471, q477, q481, q485, q489, q493, q503, q508].getD k 0), by rw [ht]; exact hP, va_K.moved hW.alike hK, hD⟩⟩, hS.F ht⟩) hS.2.2 dX9_init_199
set_option maxHeartbeats 4000000 in
set_option maxRecDepth 100000 in
theorem c_X4_init (l : Launch) (dC : Nat → ClassId) (dI : Nat → Nat → Nat) (sz : Nat) (h0 : Nat) (w : Nat) (sg : Nat) (ad : Nat) (rs : Nat) (ro : Nat) : Met l yX4_init (Cond.code yX4_init cX4_init 6 none :: gU) ({ frames := 1, cells := 7, slots := 6416, locals := 12 }) (gP dC dI sz [(h0, .inr (4, [.null, .null, .null, .null, .null, .null, .int 0, .null, .null, .null, .null, .int 0, .int 0, .null, .null, .int 0, .int 0]))] [] [.ref h0, .ref w, .ref sg, .ref ad, .ref rs, .ref ro]) (va_Qv (fun (_ : Unit) => True) (fun (_ : Unit) (t9 : State) => va_P (dC, dI) vwCl [] t9.heap ∧ va_K (dC, dI) vwCl [] t9 ∧ va_D (va_A [(h0, .inr (4, [.null, .null, .null, .null, .null, .null, .int 0, .null, .null, .null, .null, .int 0, .int 0, .null, .null, .int 0, .int 0]))] sz) []) (va_A [(h0, .inr (4, [.null, .null, .null, .null, .null, .null, .int 0, .null, .null, .null, .null, .int 0, .int 0, .null, .null, .int 0, .int 0]))] sz)) 7 6416 (va_A [(h0, .inr (4, [.null, .null, .null, .null, .null, .null, .int 0, .null, .null, .null, .null, .int 0, .int 0, .null, .null, .int 0, .int 0]))] sz) := by
  refine Met.ofW (cc := cX4_init) (maxL := 6) (ret := none) (by decide) rfl ?_
  intro p e s m args below meth c s₁ B hml hv
  obtain ⟨rfl, hsz, hP, hK, hD0, hE⟩ := hv
  have hx := B.exec
  have hb := B.bytes
  have hr := B.returns
  have hts0 := atoms_spec (ws := Cond.code yX4_init cX4_init 6 none :: gU) B.pre
  have hts : ∀ w ∈ gU, w.before _ s = true := fun w h => hts0 w (List.mem_cons_of_mem _ h)
  have hown : s.vm.findClass RX4 = some m.cls := findClass_of_methodNamed B.named
  have hlocks := B.notSynchronized
  have hin : meth.name = "<init>" := (name_of_methodNamed B.named B.method).1
  subst hsz
  have hD := hD0.self (sz := s.heap.size)
  generalize hAe : va_A [(h0, .inr (4, [.null, .null, .null, .null, .null, .null, .int 0, .null, .null, .null, .null, .int 0, .int 0, .null, .null, .int 0, .int 0]))] s.heap.size = A at hD ⊢
  have hA : ∀ q : Nat, s.heap.size ≤ q → A q := fun q h => by rw [← hAe]; exact Or.inr h
  have hS : va_S A s.heap s.heap [] := va_S.rf
  have hP : va_P (dC, dI) vwCl [(h0, .inr (4, [.null, .null, .null, .null, .null, .null, .int 0, .null, .null, .null, .null, .int 0, .int 0, .null, .null, .int 0, .int 0]))] s.heap := hP
  have hl := lv_entry ([.ref h0, .ref w, .ref sg, .ref ad, .ref rs, .ref ro]) (n := 6) (Nat.le_of_ble_eq_true rfl)
  rw [lg_entry_eq]
  generalize (lg_sl ([.ref h0, .ref w, .ref sg, .ref ad, .ref rs, .ref ro]) ++ List.replicate (6 - (lg_sl ([.ref h0, .ref w, .ref sg, .ref ad, .ref rs, .ref ro])).length) Slot.unset).toArray = ls at hl ⊢
  have hl : lv_has ls 6 [(0, .ref h0), (1, .ref w), (2, .ref sg), (3, .ref ad), (4, .ref rs), (5, .ref ro)] := hl
  refine lv_aload_n hx hb dX4_init_0 rfl (lv_at hl 0 rfl) ?_
  refine W.objInit hx hb hown (hts _ u_421) (hts _ u_29) (hts _ u_30) rfl (by rw [hml]; exact hl.1) rfl dX4_init_1 (Nat.le_of_ble_eq_true rfl) (Nat.le_of_ble_eq_true rfl) ?_
  refine W.eq (g2 := F0 m 4 ls []) rfl ?_
  refine lv_aload_n hx hb dX4_init_4 rfl (lv_at hl 0 rfl) ?_
  refine lv_aload_n hx hb dX4_init_5 rfl (lv_at hl 1 rfl) ?_
  refine va_putF (D := (dC, dI)) (ci := 4) (v := .ref w) (ty := (.object RX10)) (C := RX4) (T := TX4) (N := 17) hx hb hts gX4 tyX4 tyX4_ok nmX4 hown hK hP hD hS 0 rfl rfl 0 (by decide) (hts _ u_422) (fun _ h9 => h9) rfl hin rfl (by decide +kernel) rfl rfl (Nat.le_of_ble_eq_true rfl) dX4_init_6 (fun H543 locs hP hD hS => ?_)
  have hP : va_P (dC, dI) vwCl [(h0, .inr (4, [.ref w, .null, .null, .null, .null, .null, .int 0, .null, .null, .null, .null, .int 0, .int 0, .null, .null, .int 0, .int 0]))] H543 := hP
  have hD : va_D A [(h0, .inr (4, [.ref w, .null, .null, .null, .null, .null, .int 0, .null, .null, .null, .null, .int 0, .int 0, .null, .null, .int 0, .int 0]))] := hD
  refine lv_aload_n hx hb dX4_init_9 rfl (lv_at hl 0 rfl) ?_
  refine lv_aload_n hx hb dX4_init_10 rfl (lv_at hl 2 rfl) ?_
  refine va_putF (D := (dC, dI)) (ci := 4) (v := .ref sg) (ty := (.object RX7)) (C := RX4) (T := TX4) (N := 17) hx hb hts gX4 tyX4 tyX4_ok nmX4 hown hK hP hD hS 0 rfl rfl 1 (by decide) (hts _ u_423) (fun _ h9 => h9) rfl hin rfl (by decide +kernel) rfl rfl (Nat.le_of_ble_eq_true rfl) dX4_init_11 (fun H544 locs hP hD hS => ?_)
  have hP : va_P (dC, dI) vwCl [(h0, .inr (4, [.ref w, .ref sg, .null, .null, .null, .null, .int 0, .null, .null, .null, .null, .int 0, .int 0, .null, .null, .int 0, .int 0]))] H544 := hP
  have hD : va_D A [(h0, .inr (4, [.ref w, .ref sg, .null, .null, .null, .null, .int 0, .null, .null, .null, .null, .int 0, .int 0, .null, .null, .int 0, .int 0]))] := hD
  refine lv_aload_n hx hb dX4_init_14 rfl (lv_at hl 0 rfl) ?_
  refine lv_aload_n hx hb dX4_init_15 rfl (lv_at hl 3 rfl) ?_
  refine va_putF (D := (dC, dI)) (ci := 4) (v := .ref ad) (ty := (.object RX0)) (C := RX4) (T := TX4) (N := 17) hx hb hts gX4 tyX4 tyX4_ok nmX4 hown hK hP hD hS 0 rfl rfl 2 (by decide) (hts _ u_424) (fun _ h9 => h9) rfl hin rfl (by decide +kernel) rfl rfl (Nat.le_of_ble_eq_true rfl) dX4_init_16 (fun H545 locs hP hD hS => ?_)
  have hP : va_P (dC, dI) vwCl [(h0, .inr (4, [.ref w, .ref sg, .ref ad, .null, .null, .null, .int 0, .null, .null, .null, .null, .int 0, .int 0, .null, .null, .int 0, .int 0]))] H545 := hP
  have hD : va_D A [(h0, .inr (4, [.ref w, .ref sg, .ref ad, .null, .null, .null, .int 0, .null, .null, .null, .null, .int 0, .int 0, .null, .null, .int 0, .int 0]))] := hD
  refine lv_aload_n hx hb dX4_init_19 rfl (lv_at hl 0 rfl) ?_
  refine lv_aload hx hb dX4_init_20 (lv_at hl 4 rfl) ?_
  refine va_putF (D := (dC, dI)) (ci := 4) (v := .ref rs) (ty := (.array (.object RX5))) (C := RX4) (T := TX4) (N := 17) hx hb hts gX4 tyX4 tyX4_ok nmX4 hown hK hP hD hS 0 rfl rfl 3 (by decide) (hts _ u_425) (fun _ h9 => h9) rfl hin rfl (by decide +kernel) rfl rfl (Nat.le_of_ble_eq_true rfl) dX4_init_22 (fun H546 locs hP hD hS => ?_)
  have hP : va_P (dC, dI) vwCl [(h0, .inr (4, [.ref w, .ref sg, .ref ad, .ref rs, .null, .null, .int 0, .null, .null, .null, .null, .int 0, .int 0, .null, .null, .int 0, .int 0]))] H546 := hP
  have hD : va_D A [(h0, .inr (4, [.ref w, .ref sg, .ref ad, .ref rs, .null, .null, .int 0, .null, .null, .null, .null, .int 0, .int 0, .null, .null, .int 0, .int 0]))] := hD
  refine lv_aload_n hx hb dX4_init_25 rfl (lv_at hl 0 rfl) ?_
  refine lv_aload hx hb dX4_init_26 (lv_at hl 5 rfl) ?_
  refine va_putF (D := (dC, dI)) (ci := 4) (v := .ref ro) (ty := (.object RX6)) (C := RX4) (T := TX4) (N := 17) hx hb hts gX4 tyX4 tyX4_ok nmX4 hown hK hP hD hS 0 rfl rfl 4 (by decide) (hts _ u_426) (fun _ h9 => h9) rfl hin rfl (by decide +kernel) rfl rfl (Nat.le_of_ble_eq_true rfl) dX4_init_28 (fun H547 locs hP hD hS => ?_)
  have hP : va_P (dC, dI) vwCl [(h0, .inr (4, [.ref w, .ref sg, .ref ad, .ref rs, .ref ro, .null, .int 0, .null, .null, .null, .null, .int 0, .int 0, .null, .null, .int 0, .int 0]))] H547 := hP
  have hD : va_D A [(h0, .inr (4, [.ref w, .ref sg, .ref ad, .ref rs, .ref ro, .null, .int 0, .null, .null, .null, .null, .int 0, .int 0, .null, .null, .int 0, .int 0]))] := hD
  refine lv_aload_n hx hb dX4_init_31 rfl (lv_at hl 0 rfl) ?_
  refine lv_bipush (v := 8) hx hb dX4_init_32 (by decide) ?_
  refine va_newa (atype := .int) (ty := .int) (N' := 8) (a0 := (8, .inl (fun _ => 0))) hx hb (hts _ u_80) rfl hK hP hD hS hA (fun _ => rfl) (by decide) (by decide) (Nat.le_of_ble_eq_true rfl) (Nat.le_of_ble_eq_true rfl) (Nat.le_of_ble_eq_true rfl) dX4_init_34 (fun q548 cA549 H550 hK hP hD hS => ?_)
  refine W.widen (k := 1) (n := 8) (Nat.le_of_ble_eq_true rfl) (Nat.le_of_ble_eq_true rfl) ?_
  have hK : va_K (dC, dI) vwCl [(cA549, .int)] s := hK
  have hP : va_P (dC, dI) vwCl [(h0, .inr (4, [.ref w, .ref sg, .ref ad, .ref rs, .ref ro, .null, .int 0, .null, .null, .null, .null, .int 0, .int 0, .null, .null, .int 0, .int 0])), (q548, .inl (cA549, 8, .inl (fun _ => 0)))] H550 := hP
  have hD : va_D A [(h0, .inr (4, [.ref w, .ref sg, .ref ad, .ref rs, .ref ro, .null, .int 0, .null, .null, .null, .null, .int 0, .int 0, .null, .null, .int 0, .int 0])), (q548, .inl (cA549, 8, .inl (fun _ => 0)))] := hD
  have hP := hP.sub (ws' := [(h0, .inr (4, [.ref w, .ref sg, .ref ad, .ref rs, .ref ro, .null, .int 0, .null, .null, .null, .null, .int 0, .int 0, .null, .null, .int 0, .int 0]))]) [0] rfl
  have hD := hD.sub (ws' := [(h0, .inr (4, [.ref w, .ref sg, .ref ad, .ref rs, .ref ro, .null, .int 0, .null, .null, .null, .null, .int 0, .int 0, .null, .null, .int 0, .int 0]))]) [0] (by decide) rfl
  have hK := hK.sub (tys' := []) [] rfl
  refine va_putF (D := (dC, dI)) (ci := 4) (v := .ref q548) (ty := (.array .int)) (C := RX4) (T := TX4) (N := 17) hx hb hts gX4 tyX4 tyX4_ok nmX4 hown hK hP hD hS 0 rfl rfl 5 (by decide) (hts _ u_427) (fun _ h9 => h9) rfl hin rfl (by decide +kernel) rfl rfl (Nat.le_of_ble_eq_true rfl) dX4_init_36 (fun H551 locs hP hD hS => ?_)
  have hP : va_P (dC, dI) vwCl [(h0, .inr (4, [.ref w, .ref sg, .ref ad, .ref rs, .ref ro, .ref q548, .int 0, .null, .null, .null, .null, .int 0, .int 0, .null, .null, .int 0, .int 0]))] H551 := hP
  have hD : va_D A [(h0, .inr (4, [.ref w, .ref sg, .ref ad, .ref rs, .ref ro, .ref q548, .int 0, .null, .null, .null, .null, .int 0, .int 0, .null, .null, .int 0, .int 0]))] := hD
  refine lv_aload_n hx hb dX4_init_39 rfl (lv_at hl 0 rfl) ?_
  refine lv_sipush (v := 2560) hx hb dX4_init_40 (by decide) ?_
  refine va_newa (atype := .long) (ty := .long) (N' := 2560) (a0 := (2560, .inr (.inl (fun _ => 0)))) hx hb (hts _ u_109) rfl hK hP hD hS hA (fun _ => rfl) (by decide) (by decide) (Nat.le_of_ble_eq_true rfl) (Nat.le_of_ble_eq_true rfl) (Nat.le_of_ble_eq_true rfl) dX4_init_43 (fun q552 cA553 H554 hK hP hD hS => ?_)
  refine W.widen (k := 2) (n := 2568) (Nat.le_of_ble_eq_true rfl) (Nat.le_of_ble_eq_true rfl) ?_
  have hK : va_K (dC, dI) vwCl [(cA553, .long)] s := hK
  have hP : va_P (dC, dI) vwCl [(h0, .inr (4, [.ref w, .ref sg, .ref ad, .ref rs, .ref ro, .ref q548, .int 0, .null, .null, .null, .null, .int 0, .int 0, .null, .null, .int 0, .int 0])), (q552, .inl (cA553, 2560, .inr (.inl (fun _ => 0))))] H554 := hP
  have hD : va_D A [(h0, .inr (4, [.ref w, .ref sg, .ref ad, .ref rs, .ref ro, .ref q548, .int 0, .null, .null, .null, .null, .int 0, .int 0, .null, .null, .int 0, .int 0])), (q552, .inl (cA553, 2560, .inr (.inl (fun _ => 0))))] := hD
  have hP := hP.sub (ws' := [(h0, .inr (4, [.ref w, .ref sg, .ref ad, .ref rs, .ref ro, .ref q548, .int 0, .null, .null, .null, .null, .int 0, .int 0, .null, .null, .int 0, .int 0]))]) [0] rfl
  have hD := hD.sub (ws' := [(h0, .inr (4, [.ref w, .ref sg, .ref ad, .ref rs, .ref ro, .ref q548, .int 0, .null, .null, .null, .null, .int 0, .int 0, .null, .null, .int 0, .int 0]))]) [0] (by decide) rfl
  have hK := hK.sub (tys' := []) [] rfl
  refine va_put (D := (dC, dI)) (ci := 4) (v := .ref q552) (ty := (.array .long)) (C := RX4) (T := TX4) (N := 17) hx hb hts gX4 tyX4 tyX4_ok nmX4 hown hK hP hD hS 0 rfl rfl 7 (by decide) (hts _ u_429) (fun _ h9 => h9) rfl (by decide +kernel) rfl rfl (Nat.le_of_ble_eq_true rfl) dX4_init_45 (fun H555 locs hP hD hS => ?_)
  have hP : va_P (dC, dI) vwCl [(h0, .inr (4, [.ref w, .ref sg, .ref ad, .ref rs, .ref ro, .ref q548, .int 0, .ref q552, .null, .null, .null, .int 0, .int 0, .null, .null, .int 0, .int 0]))] H555 := hP
  have hD : va_D A [(h0, .inr (4, [.ref w, .ref sg, .ref ad, .ref rs, .ref ro, .ref q548, .int 0, .ref q552, .null, .null, .null, .int 0, .int 0, .null, .null, .int 0, .int 0]))] := hD
  refine lv_aload_n hx hb dX4_init_48 rfl (lv_at hl 0 rfl) ?_
  refine lv_sipush (v := 2560) hx hb dX4_init_49 (by decide) ?_
  refine va_newa (atype := .long) (ty := .long) (N' := 2560) (a0 := (2560, .inr (.inl (fun _ => 0)))) hx hb (hts _ u_109) rfl hK hP hD hS hA (fun _ => rfl) (by decide) (by decide) (Nat.le_of_ble_eq_true rfl) (Nat.le_of_ble_eq_true rfl) (Nat.le_of_ble_eq_true rfl) dX4_init_52 (fun q556 cA557 H558 hK hP hD hS => ?_)
  refine W.widen (k := 3) (n := 5128) (Nat.le_of_ble_eq_true rfl) (Nat.le_of_ble_eq_true rfl) ?_
  have hK : va_K (dC, dI) vwCl [(cA557, .long)] s := hK
  have hP : va_P (dC, dI) vwCl [(h0, .inr (4, [.ref w, .ref sg, .ref ad, .ref rs, .ref ro, .ref q548, .int 0, .ref q552, .null, .null, .null, .int 0, .int 0, .null, .null, .int 0, .int 0])), (q556, .inl (cA557, 2560, .inr (.inl (fun _ => 0))))] H558 := hP
  have hD : va_D A [(h0, .inr (4, [.ref w, .ref sg, .ref ad, .ref rs, .ref ro, .ref q548, .int 0, .ref q552, .null, .null, .null, .int 0, .int 0, .null, .null, .int 0, .int 0])), (q556, .inl (cA557, 2560, .inr (.inl (fun _ => 0))))] := hD
  have hP := hP.sub (ws' := [(h0, .inr (4, [.ref w, .ref sg, .ref ad, .ref rs, .ref ro, .ref q548, .int 0, .ref q552, .null, .null, .null, .int 0, .int 0, .null, .null, .int 0, .int 0]))]) [0] rfl
  have hD := hD.sub (ws' := [(h0, .inr (4, [.ref w, .ref sg, .ref ad, .ref rs, .ref ro, .ref q548, .int 0, .ref q552, .null, .null, .null, .int 0, .int 0, .null, .null, .int 0, .int 0]))]) [0] (by decide) rfl
  have hK := hK.sub (tys' := []) [] rfl
  refine va_put (D := (dC, dI)) (ci := 4) (v := .ref q556) (ty := (.array .long)) (C := RX4) (T := TX4) (N := 17) hx hb hts gX4 tyX4 tyX4_ok nmX4 hown hK hP hD hS 0 rfl rfl 8 (by decide) (hts _ u_430) (fun _ h9 => h9) rfl (by decide +kernel) rfl rfl (Nat.le_of_ble_eq_true rfl) dX4_init_54 (fun H559 locs hP hD hS => ?_)
  have hP : va_P (dC, dI) vwCl [(h0, .inr (4, [.ref w, .ref sg, .ref ad, .ref rs, .ref ro, .ref q548, .int 0, .ref q552, .ref q556, .null, .null, .int 0, .int 0, .null, .null, .int 0, .int 0]))] H559 := hP
  have hD : va_D A [(h0, .inr (4, [.ref w, .ref sg, .ref ad, .ref rs, .ref ro, .ref q548, .int 0, .ref q552, .ref q556, .null, .null, .int 0, .int 0, .null, .null, .int 0, .int 0]))] := hD
  refine lv_aload_n hx hb dX4_init_57 rfl (lv_at hl 0 rfl) ?_
  refine lv_sipush (v := 640) hx hb dX4_init_58 (by decide) ?_
  refine va_newa (atype := .int) (ty := .int) (N' := 640) (a0 := (640, .inl (fun _ => 0))) hx hb (hts _ u_80) rfl hK hP hD hS hA (fun _ => rfl) (by decide) (by decide) (Nat.le_of_ble_eq_true rfl) (Nat.le_of_ble_eq_true rfl) (Nat.le_of_ble_eq_true rfl) dX4_init_61 (fun q560 cA561 H562 hK hP hD hS => ?_)
  refine W.widen (k := 4) (n := 5768) (Nat.le_of_ble_eq_true rfl) (Nat.le_of_ble_eq_true rfl) ?_
  have hK : va_K (dC, dI) vwCl [(cA561, .int)] s := hK
  have hP : va_P (dC, dI) vwCl [(h0, .inr (4, [.ref w, .ref sg, .ref ad, .ref rs, .ref ro, .ref q548, .int 0, .ref q552, .ref q556, .null, .null, .int 0, .int 0, .null, .null, .int 0, .int 0])), (q560, .inl (cA561, 640, .inl (fun _ => 0)))] H562 := hP
  have hD : va_D A [(h0, .inr (4, [.ref w, .ref sg, .ref ad, .ref rs, .ref ro, .ref q548, .int 0, .ref q552, .ref q556, .null, .null, .int 0, .int 0, .null, .null, .int 0, .int 0])), (q560, .inl (cA561, 640, .inl (fun _ => 0)))] := hD
  have hP := hP.sub (ws' := [(h0, .inr (4, [.ref w, .ref sg, .ref ad, .ref rs, .ref ro, .ref q548, .int 0, .ref q552, .ref q556, .null, .null, .int 0, .int 0, .null, .null, .int 0, .int 0]))]) [0] rfl
  have hD := hD.sub (ws' := [(h0, .inr (4, [.ref w, .ref sg, .ref ad, .ref rs, .ref ro, .ref q548, .int 0, .ref q552, .ref q556, .null, .null, .int 0, .int 0, .null, .null, .int 0, .int 0]))]) [0] (by decide) rfl
  have hK := hK.sub (tys' := []) [] rfl
  refine va_put (D := (dC, dI)) (ci := 4) (v := .ref q560) (ty := (.array .int)) (C := RX4) (T := TX4) (N := 17) hx hb hts gX4 tyX4 tyX4_ok nmX4 hown hK hP hD hS 0 rfl rfl 9 (by decide) (hts _ u_431) (fun _ h9 => h9) rfl (by decide +kernel) rfl rfl (Nat.le_of_ble_eq_true rfl) dX4_init_63 (fun H563 locs hP hD hS => ?_)
  have hP : va_P (dC, dI) vwCl [(h0, .inr (4, [.ref w, .ref sg, .ref ad, .ref rs, .ref ro, .ref q548, .int 0, .ref q552, .ref q556, .ref q560, .null, .int 0, .int 0, .null, .null, .int 0, .int 0]))] H563 := hP
  have hD : va_D A [(h0, .inr (4, [.ref w, .ref sg, .ref ad, .ref rs, .ref ro, .ref q548, .int 0, .ref q552, .ref q556, .ref q560, .null, .int 0, .int 0, .null, .null, .int 0, .int 0]))] := hD
  refine lv_aload_n hx hb dX4_init_66 rfl (lv_at hl 0 rfl) ?_
  refine lv_sipush (v := 640) hx hb dX4_init_67 (by decide) ?_
  refine va_newa (atype := .int) (ty := .int) (N' := 640) (a0 := (640, .inl (fun _ => 0))) hx hb (hts _ u_80) rfl hK hP hD hS hA (fun _ => rfl) (by decide) (by decide) (Nat.le_of_ble_eq_true rfl) (Nat.le_of_ble_eq_true rfl) (Nat.le_of_ble_eq_true rfl) dX4_init_70 (fun q564 cA565 H566 hK hP hD hS => ?_)
  refine W.widen (k := 5) (n := 6408) (Nat.le_of_ble_eq_true rfl) (Nat.le_of_ble_eq_true rfl) ?_
  have hK : va_K (dC, dI) vwCl [(cA565, .int)] s := hK
  have hP : va_P (dC, dI) vwCl [(h0, .inr (4, [.ref w, .ref sg, .ref ad, .ref rs, .ref ro, .ref q548, .int 0, .ref q552, .ref q556, .ref q560, .null, .int 0, .int 0, .null, .null, .int 0, .int 0])), (q564, .inl (cA565, 640, .inl (fun _ => 0)))] H566 := hP
  have hD : va_D A [(h0, .inr (4, [.ref w, .ref sg, .ref ad, .ref rs, .ref ro, .ref q548, .int 0, .ref q552, .ref q556, .ref q560, .null, .int 0, .int 0, .null, .null, .int 0, .int 0])), (q564, .inl (cA565, 640, .inl (fun _ => 0)))] := hD
  have hP := hP.sub (ws' := [(h0, .inr (4, [.ref w, .ref sg, .ref ad, .ref rs, .ref ro, .ref q548, .int 0, .ref q552, .ref q556, .ref q560, .null, .int 0, .int 0, .null, .null, .int 0, .int 0]))]) [0] rfl
  have hD := hD.sub (ws' := [(h0, .inr (4, [.ref w, .ref sg, .ref ad, .ref rs, .ref ro, .ref q548, .int 0, .ref q552, .ref q556, .ref q560, .null, .int 0, .int 0, .null, .null, .int 0, .int 0]))]) [0] (by decide) rfl
  have hK := hK.sub (tys' := []) [] rfl
  refine va_put (D := (dC, dI)) (ci := 4) (v := .ref q564) (ty := (.array .int)) (C := RX4) (T := TX4) (N := 17) hx hb hts gX4 tyX4 tyX4_ok nmX4 hown hK hP hD hS 0 rfl rfl 10 (by decide) (hts _ u_432) (fun _ h9 => h9) rfl (by decide +kernel) rfl rfl (Nat.le_of_ble_eq_true rfl) dX4_init_72 (fun H567 locs hP hD hS => ?_)
  have hP : va_P (dC, dI) vwCl [(h0, .inr (4, [.ref w, .ref sg, .ref ad, .ref rs, .ref ro, .ref q548, .int 0, .ref q552, .ref q556, .ref q560, .ref q564, .int 0, .int 0, .null, .null, .int 0, .int 0]))] H567 := hP
  have hD : va_D A [(h0, .inr (4, [.ref w, .ref sg, .ref ad, .ref rs, .ref ro, .ref q548, .int 0, .ref q552, .ref q556, .ref q560, .ref q564, .int 0, .int 0, .null, .null, .int 0, .int 0]))] := hD
  refine lv_aload_n hx hb dX4_init_75 rfl (lv_at hl 0 rfl) ?_
  refine lv_iconst (v := 4) hx hb dX4_init_76 (by decide) ?_
  refine va_newa (atype := .long) (ty := .long) (N' := 4) (a0 := (4, .inr (.inl (fun _ => 0)))) hx hb (hts _ u_109) rfl hK hP hD hS hA (fun _ => rfl) (by decide) (by decide) (Nat.le_of_ble_eq_true rfl) (Nat.le_of_ble_eq_true rfl) (Nat.le_of_ble_eq_true rfl) dX4_init_77 (fun q568 cA569 H570 hK hP hD hS => ?_)
  refine W.widen (k := 6) (n := 6412) (Nat.le_of_ble_eq_true rfl) (Nat.le_of_ble_eq_true rfl) ?_
  have hK : va_K (dC, dI) vwCl [(cA569, .long)] s := hK
  have hP : va_P (dC, dI) vwCl [(h0, .inr (4, [.ref w, .ref sg, .ref ad, .ref rs, .ref ro, .ref q548, .int 0, .ref q552, .ref q556, .ref q560, .ref q564, .int 0, .int 0, .null, .null, .int 0, .int 0])), (q568, .inl (cA569, 4, .inr (.inl (fun _ => 0))))] H570 := hP
  have hD : va_D A [(h0, .inr (4, [.ref w, .ref sg, .ref ad, .ref rs, .ref ro, .ref q548, .int 0, .ref q552, .ref q556, .ref q560, .ref q564, .int 0, .int 0, .null, .null, .int 0, .int 0])), (q568, .inl (cA569, 4, .inr (.inl (fun _ => 0))))] := hD
  have hP := hP.sub (ws' := [(h0, .inr (4, [.ref w, .ref sg, .ref ad, .ref rs, .ref ro, .ref q548, .int 0, .ref q552, .ref q556, .ref q560, .ref q564, .int 0, .int 0, .null, .null, .int 0, .int 0]))]) [0] rfl
  have hD := hD.sub (ws' := [(h0, .inr (4, [.ref w, .ref sg, .ref ad, .ref rs, .ref ro, .ref q548, .int 0, .ref q552, .ref q556, .ref q560, .ref q564, .int 0, .int 0, .null, .null, .int 0, .int 0]))]) [0] (by decide) rfl
  have hK := hK.sub (tys' := []) [] rfl
  refine va_putF (D := (dC, dI)) (ci := 4) (v := .ref q568) (ty := (.array .long)) (C := RX4) (T := TX4) (N := 17) hx hb hts gX4 tyX4 tyX4_ok nmX4 hown hK hP hD hS 0 rfl rfl 13 (by decide) (hts _ u_435) (fun _ h9 => h9) rfl hin rfl (by decide +kernel) rfl rfl (Nat.le_of_ble_eq_true rfl) dX4_init_79 (fun H571 locs hP hD hS => ?_)
  have hP : va_P (dC, dI) vwCl [(h0, .inr (4, [.ref w, .ref sg, .ref ad, .ref rs, .ref ro, .ref q548, .int 0, .ref q552, .ref q556, .ref q560, .ref q564, .int 0, .int 0, .ref q568, .null, .int 0, .int 0]))] H571 := hP
  have hD : va_D A [(h0, .inr (4, [.ref w, .ref sg, .ref ad, .ref rs, .ref ro, .ref q548, .int 0, .ref q552, .ref q556, .ref q560, .ref q564, .int 0, .int 0, .ref q568, .null, .int 0, .int 0]))] := hD
  refine lv_aload_n hx hb dX4_init_82 rfl (lv_at hl 0 rfl) ?_
  refine lv_iconst (v := 4) hx hb dX4_init_83 (by decide) ?_
  refine va_newa (atype := .long) (ty := .long) (N' := 4) (a0 := (4, .inr (.inl (fun _ => 0)))) hx hb (hts _ u_109) rfl hK hP hD hS hA (fun _ => rfl) (by decide) (by decide) (Nat.le_of_ble_eq_true rfl) (Nat.le_of_ble_eq_true rfl) (Nat.le_of_ble_eq_true rfl) dX4_init_84 (fun q572 cA573 H574 hK hP hD hS => ?_)
  refine W.widen (k := 7) (n := 6416) (Nat.le_of_ble_eq_true rfl) (Nat.le_of_ble_eq_true rfl) ?_
  have hK : va_K (dC, dI) vwCl [(cA573, .long)] s := hK
  have hP : va_P (dC, dI) vwCl [(h0, .inr (4, [.ref w, .ref sg, .ref ad, .ref rs, .ref ro, .ref q548, .int 0, .ref q552, .ref q556, .ref q560, .ref q564, .int 0, .int 0, .ref q568, .null, .int 0, .int 0])), (q572, .inl (cA573, 4, .inr (.inl (fun _ => 0))))] H574 := hP
  have hD : va_D A [(h0, .inr (4, [.ref w, .ref sg, .ref ad, .ref rs, .ref ro, .ref q548, .int 0, .ref q552, .ref q556, .ref q560, .ref q564, .int 0, .int 0, .ref q568, .null, .int 0, .int 0])), (q572, .inl (cA573, 4, .inr (.inl (fun _ => 0))))] := hD
  have hP := hP.sub (ws' := [(h0, .inr (4, [.ref w, .ref sg, .ref ad, .ref rs, .ref ro, .ref q548, .int 0, .ref q552, .ref q556, .ref q560, .ref q564, .int 0, .int 0, .ref q568, .null, .int 0, .int 0]))]) [0] rfl
  have hD := hD.sub (ws' := [(h0, .inr (4, [.ref w, .ref sg, .ref ad, .ref rs, .ref ro, .ref q548, .int 0, .ref q552, .ref q556, .ref q560, .ref q564, .int 0, .int 0, .ref q568, .null, .int 0, .int 0]))]) [0] (by decide) rfl
  have hK := hK.sub (tys' := []) [] rfl
  refine va_putF (D := (dC, dI)) (ci := 4) (v := .ref q572) (ty := (.array .long)) (C := RX4) (T := TX4) (N := 17) hx hb hts gX4 tyX4 tyX4_ok nmX4 hown hK hP hD hS 0 rfl rfl 14 (by decide) (hts _ u_436) (fun _ h9 => h9) rfl hin rfl (by decide +kernel) rfl rfl (Nat.le_of_ble_eq_true rfl) dX4_init_86 (fun H575 locs hP hD hS => ?_)
  have hP : va_P (dC, dI) vwCl [(h0, .inr (4, [.ref w, .ref sg, .ref ad, .ref rs, .ref ro, .ref q548, .int 0, .ref q552, .ref q556, .ref q560, .ref q564, .int 0, .int 0, .ref q568, .ref q572, .int 0, .int 0]))] H575 := hP
  have hD : va_D A [(h0, .inr (4, [.ref w, .ref sg, .ref ad, .ref rs, .ref ro, .ref q548, .int 0, .ref q552, .ref q556, .ref q560, .ref q564, .int 0, .int 0, .ref q568, .ref q572, .int 0, .int 0]))] := hD
  have hP := hP.sub (ws' := []) [] rfl
  have hD := hD.sub (ws' := []) [] (by decide) rfl
  have hK := hK.sub (tys' := []) [] rfl
  refine W.widen (k := 7) (n := 6416) (Nat.le_of_ble_eq_true rfl) (Nat.le_of_ble_eq_true rfl) ?_
  exact W.vret hx hb hr (fun t ht hW => ⟨⟨(), rfl, trivial, ⟨by rw [ht]; exact hP, va_K.moved hW.alike hK, hD⟩⟩, hS.F ht⟩) hS.2.2 dX4_init_89
