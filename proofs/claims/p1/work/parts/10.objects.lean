theorem dX10_init_0 : decode cX10_init 0 = .ok (.aload_n 0, 1) := by decide +kernel
theorem dX10_init_1 : decode cX10_init 1 = .ok (.invokespecial 3, 3) := by decide +kernel
theorem w_129 : Cond.methodLink "QuarterWalks" 3 objectInit ∈ wAll := wIn 129 (by decide +kernel) (by decide +kernel)
theorem dX10_init_4 : decode cX10_init 4 = .ok (.aload_n 0, 1) := by decide +kernel
theorem dX10_init_5 : decode cX10_init 5 = .ok (.new 9, 3) := by decide +kernel
theorem w_132 : Cond.classLink "QuarterWalks" 9 "QuarterWalks$Tape" ∈ wAll := wIn 132 (by decide +kernel) (by decide +kernel)
theorem w_133 : Cond.instantiable "QuarterWalks$Tape" 7 ∈ wAll := wIn 133 (by decide +kernel) (by decide +kernel)
theorem nw_X10_9 : nw RX10 9 8 7 [.int 0, .null, .null, .int 0, .int 0, .int 0, .int 0] := ⟨RX7, TX7, tyX7, rfl, inA_X7, tyX7_ok, w_132, w_133, w_97, by decide +kernel⟩
theorem dX10_init_8 : decode cX10_init 8 = .ok (.dup, 1) := by decide +kernel
theorem dX10_init_9 : decode cX10_init 9 = .ok (.invokespecial 11, 3) := by decide +kernel
theorem w_134 : Cond.methodLink "QuarterWalks" 11 yX7_init ∈ wAll := wIn 134 (by decide +kernel) (by decide +kernel)
theorem mk_X7_init : mk yX7_init 0 := ⟨by decide +kernel, w_97⟩
theorem w_135 : Cond.instanceMethod yX7_init ∈ wAll := wIn 135 (by decide +kernel) (by decide +kernel)
theorem w_136 : Cond.code yX7_init cX7_init 1 none ∈ wAll := wIn 136 (by decide +kernel) (by decide +kernel)
theorem dX10_init_12 : decode cX10_init 12 = .ok (.putfield 12, 3) := by decide +kernel
theorem flw_X10_12 : flw RX10 12 11 0 (.object "QuarterWalks$Tape") := ⟨RX10, TX10, 10, tyX10, rfl, inA_X10, by decide, w_379, tyX10_ok, nmX10, by decide +kernel, Or.inr ⟨rfl, rfl⟩⟩
theorem dX10_init_15 : decode cX10_init 15 = .ok (.aload_n 0, 1) := by decide +kernel
theorem dX10_init_16 : decode cX10_init 16 = .ok (.new 16, 3) := by decide +kernel
theorem w_162 : Cond.classLink "QuarterWalks" 16 "QuarterWalks$Book" ∈ wAll := wIn 162 (by decide +kernel) (by decide +kernel)
theorem w_163 : Cond.instantiable "QuarterWalks$Book" 6 ∈ wAll := wIn 163 (by decide +kernel) (by decide +kernel)
theorem nw_X10_16 : nw RX10 16 1 6 [.int 0, .null, .null, .null, .int 0, .int 0] := ⟨RX0, TX0, tyX0, rfl, inA_X0, tyX0_ok, w_162, w_163, w_98, by decide +kernel⟩
theorem dX10_init_19 : decode cX10_init 19 = .ok (.dup, 1) := by decide +kernel
theorem dX10_init_20 : decode cX10_init 20 = .ok (.invokespecial 18, 3) := by decide +kernel
theorem w_164 : Cond.methodLink "QuarterWalks" 18 yX0_init ∈ wAll := wIn 164 (by decide +kernel) (by decide +kernel)
theorem mk_X0_init : mk yX0_init 0 := ⟨by decide +kernel, w_98⟩
theorem w_165 : Cond.instanceMethod yX0_init ∈ wAll := wIn 165 (by decide +kernel) (by decide +kernel)
theorem w_166 : Cond.code yX0_init cX0_init 2 none ∈ wAll := wIn 166 (by decide +kernel) (by decide +kernel)
theorem dX10_init_23 : decode cX10_init 23 = .ok (.putfield 19, 3) := by decide +kernel
theorem flw_X10_19 : flw RX10 19 11 1 (.object "QuarterWalks$Book") := ⟨RX10, TX10, 10, tyX10, rfl, inA_X10, by decide, w_380, tyX10_ok, nmX10, by decide +kernel, Or.inr ⟨rfl, rfl⟩⟩
theorem dX10_init_26 : decode cX10_init 26 = .ok (.aload_n 0, 1) := by decide +kernel
theorem dX10_init_27 : decode cX10_init 27 = .ok (.new 23, 3) := by decide +kernel
theorem w_206 : Cond.classLink "QuarterWalks" 23 "QuarterWalks$Grid" ∈ wAll := wIn 206 (by decide +kernel) (by decide +kernel)
theorem w_207 : Cond.instantiable "QuarterWalks$Grid" 11 ∈ wAll := wIn 207 (by decide +kernel) (by decide +kernel)
theorem w_100 : Cond.initialized "QuarterWalks$Grid" ∈ wAll := wIn 100 (by decide +kernel) (by decide +kernel)
theorem nw_X10_23 : nw RX10 23 3 11 [.null, .null, .null, .null, .null, .null, .int 0, .int 0, .int 0, .int 0, .int 0] := ⟨RX2, TX2, tyX2, rfl, inA_X2, tyX2_ok, w_206, w_207, w_100, by decide +kernel⟩
theorem dX10_init_30 : decode cX10_init 30 = .ok (.dup, 1) := by decide +kernel
theorem dX10_init_31 : decode cX10_init 31 = .ok (.invokespecial 25, 3) := by decide +kernel
theorem w_208 : Cond.methodLink "QuarterWalks" 25 yX2_init ∈ wAll := wIn 208 (by decide +kernel) (by decide +kernel)
theorem mk_X2_init : mk yX2_init 0 := ⟨by decide +kernel, w_100⟩
theorem w_209 : Cond.instanceMethod yX2_init ∈ wAll := wIn 209 (by decide +kernel) (by decide +kernel)
theorem w_210 : Cond.code yX2_init cX2_init 1 none ∈ wAll := wIn 210 (by decide +kernel) (by decide +kernel)
theorem dX10_init_34 : decode cX10_init 34 = .ok (.putfield 26, 3) := by decide +kernel
theorem w_381 : Cond.fieldLink "QuarterWalks" 26 "QuarterWalks" "grid" "LQuarterWalks$Grid;" ∈ wAll := wIn 381 (by decide +kernel) (by decide +kernel)
theorem flw_X10_26 : flw RX10 26 11 2 (.object "QuarterWalks$Grid") := ⟨RX10, TX10, 10, tyX10, rfl, inA_X10, by decide, w_381, tyX10_ok, nmX10, by decide +kernel, Or.inr ⟨rfl, rfl⟩⟩
theorem dX10_init_37 : decode cX10_init 37 = .ok (.aload_n 0, 1) := by decide +kernel
theorem dX10_init_38 : decode cX10_init 38 = .ok (.new 30, 3) := by decide +kernel
theorem w_270 : Cond.classLink "QuarterWalks" 30 "QuarterWalks$Ways" ∈ wAll := wIn 270 (by decide +kernel) (by decide +kernel)
theorem w_271 : Cond.instantiable "QuarterWalks$Ways" 4 ∈ wAll := wIn 271 (by decide +kernel) (by decide +kernel)
theorem w_102 : Cond.initialized "QuarterWalks$Ways" ∈ wAll := wIn 102 (by decide +kernel) (by decide +kernel)
theorem nw_X10_30 : nw RX10 30 10 4 [.null, .int 0, .int 0, .int 0] := ⟨RX9, TX9, tyX9, rfl, inA_X9, tyX9_ok, w_270, w_271, w_102, by decide +kernel⟩
theorem dX10_init_41 : decode cX10_init 41 = .ok (.dup, 1) := by decide +kernel
theorem dX10_init_42 : decode cX10_init 42 = .ok (.invokespecial 32, 3) := by decide +kernel
theorem w_272 : Cond.methodLink "QuarterWalks" 32 yX9_init ∈ wAll := wIn 272 (by decide +kernel) (by decide +kernel)
theorem mk_X9_init : mk yX9_init 0 := ⟨by decide +kernel, w_102⟩
theorem w_273 : Cond.instanceMethod yX9_init ∈ wAll := wIn 273 (by decide +kernel) (by decide +kernel)
theorem w_274 : Cond.code yX9_init cX9_init 1 none ∈ wAll := wIn 274 (by decide +kernel) (by decide +kernel)
theorem dX10_init_45 : decode cX10_init 45 = .ok (.putfield 33, 3) := by decide +kernel
theorem w_382 : Cond.fieldLink "QuarterWalks" 33 "QuarterWalks" "ways" "LQuarterWalks$Ways;" ∈ wAll := wIn 382 (by decide +kernel) (by decide +kernel)
theorem flw_X10_33 : flw RX10 33 11 3 (.object "QuarterWalks$Ways") := ⟨RX10, TX10, 10, tyX10, rfl, inA_X10, by decide, w_382, tyX10_ok, nmX10, by decide +kernel, Or.inr ⟨rfl, rfl⟩⟩
theorem dX10_init_48 : decode cX10_init 48 = .ok (.aload_n 0, 1) := by decide +kernel
theorem dX10_init_49 : decode cX10_init 49 = .ok (.new 37, 3) := by decide +kernel
theorem w_291 : Cond.classLink "QuarterWalks" 37 "QuarterWalks$Turns" ∈ wAll := wIn 291 (by decide +kernel) (by decide +kernel)
theorem w_292 : Cond.instantiable "QuarterWalks$Turns" 2 ∈ wAll := wIn 292 (by decide +kernel) (by decide +kernel)
theorem w_103 : Cond.initialized "QuarterWalks$Turns" ∈ wAll := wIn 103 (by decide +kernel) (by decide +kernel)
theorem nw_X10_37 : nw RX10 37 9 2 [.null, .null] := ⟨RX8, TX8, tyX8, rfl, inA_X8, tyX8_ok, w_291, w_292, w_103, by decide +kernel⟩
theorem dX10_init_52 : decode cX10_init 52 = .ok (.dup, 1) := by decide +kernel
theorem dX10_init_53 : decode cX10_init 53 = .ok (.invokespecial 39, 3) := by decide +kernel
theorem w_293 : Cond.methodLink "QuarterWalks" 39 yX8_init ∈ wAll := wIn 293 (by decide +kernel) (by decide +kernel)
theorem mk_X8_init : mk yX8_init 0 := ⟨by decide +kernel, w_103⟩
theorem w_294 : Cond.instanceMethod yX8_init ∈ wAll := wIn 294 (by decide +kernel) (by decide +kernel)
theorem w_295 : Cond.code yX8_init cX8_init 1 none ∈ wAll := wIn 295 (by decide +kernel) (by decide +kernel)
theorem dX10_init_56 : decode cX10_init 56 = .ok (.putfield 40, 3) := by decide +kernel
theorem w_383 : Cond.fieldLink "QuarterWalks" 40 "QuarterWalks" "turns" "LQuarterWalks$Turns;" ∈ wAll := wIn 383 (by decide +kernel) (by decide +kernel)
theorem flw_X10_40 : flw RX10 40 11 4 (.object "QuarterWalks$Turns") := ⟨RX10, TX10, 10, tyX10, rfl, inA_X10, by decide, w_383, tyX10_ok, nmX10, by decide +kernel, Or.inr ⟨rfl, rfl⟩⟩
theorem dX10_init_59 : decode cX10_init 59 = .ok (.aload_n 0, 1) := by decide +kernel
theorem dX10_init_60 : decode cX10_init 60 = .ok (.new 44, 3) := by decide +kernel
theorem w_306 : Cond.classLink "QuarterWalks" 44 "QuarterWalks$Matrix" ∈ wAll := wIn 306 (by decide +kernel) (by decide +kernel)
theorem w_307 : Cond.instantiable "QuarterWalks$Matrix" 4 ∈ wAll := wIn 307 (by decide +kernel) (by decide +kernel)
theorem w_104 : Cond.initialized "QuarterWalks$Matrix" ∈ wAll := wIn 104 (by decide +kernel) (by decide +kernel)
theorem nw_X10_44 : nw RX10 44 5 4 [.null, .int 0, .int 0, .int 0] := ⟨RX4, TX4, tyX4, rfl, inA_X4, tyX4_ok, w_306, w_307, w_104, by decide +kernel⟩
theorem dX10_init_63 : decode cX10_init 63 = .ok (.dup, 1) := by decide +kernel
theorem dX10_init_64 : decode cX10_init 64 = .ok (.invokespecial 46, 3) := by decide +kernel
theorem w_308 : Cond.methodLink "QuarterWalks" 46 yX4_init ∈ wAll := wIn 308 (by decide +kernel) (by decide +kernel)
theorem mk_X4_init : mk yX4_init 0 := ⟨by decide +kernel, w_104⟩
theorem w_309 : Cond.instanceMethod yX4_init ∈ wAll := wIn 309 (by decide +kernel) (by decide +kernel)
theorem w_310 : Cond.code yX4_init cX4_init 1 none ∈ wAll := wIn 310 (by decide +kernel) (by decide +kernel)
theorem dX10_init_67 : decode cX10_init 67 = .ok (.putfield 47, 3) := by decide +kernel
theorem w_384 : Cond.fieldLink "QuarterWalks" 47 "QuarterWalks" "matrix" "LQuarterWalks$Matrix;" ∈ wAll := wIn 384 (by decide +kernel) (by decide +kernel)
theorem flw_X10_47 : flw RX10 47 11 5 (.object "QuarterWalks$Matrix") := ⟨RX10, TX10, 10, tyX10, rfl, inA_X10, by decide, w_384, tyX10_ok, nmX10, by decide +kernel, Or.inr ⟨rfl, rfl⟩⟩
theorem dX10_init_70 : decode cX10_init 70 = .ok (.aload_n 0, 1) := by decide +kernel
theorem dX10_init_71 : decode cX10_init 71 = .ok (.new 51, 3) := by decide +kernel
theorem w_327 : Cond.classLink "QuarterWalks" 51 "QuarterWalks$Guess" ∈ wAll := wIn 327 (by decide +kernel) (by decide +kernel)
theorem w_328 : Cond.instantiable "QuarterWalks$Guess" 4 ∈ wAll := wIn 328 (by decide +kernel) (by decide +kernel)
theorem w_105 : Cond.initialized "QuarterWalks$Guess" ∈ wAll := wIn 105 (by decide +kernel) (by decide +kernel)
theorem nw_X10_51 : nw RX10 51 4 4 [.null, .null, .null, .int 0] := ⟨RX3, TX3, tyX3, rfl, inA_X3, tyX3_ok, w_327, w_328, w_105, by decide +kernel⟩
theorem dX10_init_74 : decode cX10_init 74 = .ok (.dup, 1) := by decide +kernel
theorem dX10_init_75 : decode cX10_init 75 = .ok (.aload_n 0, 1) := by decide +kernel
theorem dX10_init_76 : decode cX10_init 76 = .ok (.getfield 47, 3) := by decide +kernel
theorem fl_X10_47 : fl RX10 47 11 5 := ⟨RX10, TX10, 10, rfl, inA_X10, by decide, w_384⟩
theorem dX10_init_79 : decode cX10_init 79 = .ok (.invokespecial 53, 3) := by decide +kernel
theorem w_329 : Cond.methodLink "QuarterWalks" 53 yX3_init ∈ wAll := wIn 329 (by decide +kernel) (by decide +kernel)
theorem mk_X3_init : mk yX3_init 1 := ⟨by decide +kernel, w_105⟩
theorem w_330 : Cond.instanceMethod yX3_init ∈ wAll := wIn 330 (by decide +kernel) (by decide +kernel)
theorem w_331 : Cond.code yX3_init cX3_init 2 none ∈ wAll := wIn 331 (by decide +kernel) (by decide +kernel)
theorem dX10_init_82 : decode cX10_init 82 = .ok (.putfield 56, 3) := by decide +kernel
theorem w_385 : Cond.fieldLink "QuarterWalks" 56 "QuarterWalks" "guess" "LQuarterWalks$Guess;" ∈ wAll := wIn 385 (by decide +kernel) (by decide +kernel)
theorem flw_X10_56 : flw RX10 56 11 6 (.object "QuarterWalks$Guess") := ⟨RX10, TX10, 10, tyX10, rfl, inA_X10, by decide, w_385, tyX10_ok, nmX10, by decide +kernel, Or.inr ⟨rfl, rfl⟩⟩
theorem dX10_init_85 : decode cX10_init 85 = .ok (.aload_n 0, 1) := by decide +kernel
theorem dX10_init_86 : decode cX10_init 86 = .ok (.iconst 4, 1) := by decide +kernel
theorem dX10_init_87 : decode cX10_init 87 = .ok (.newarray .int, 2) := by decide +kernel
theorem dX10_init_89 : decode cX10_init 89 = .ok (.putfield 60, 3) := by decide +kernel
theorem flw_X10_60 : flw RX10 60 11 7 (.array (.int)) := ⟨RX10, TX10, 10, tyX10, rfl, inA_X10, by decide, w_386, tyX10_ok, nmX10, by decide +kernel, Or.inr ⟨rfl, rfl⟩⟩
theorem dX10_init_92 : decode cX10_init 92 = .ok (.aload_n 0, 1) := by decide +kernel
theorem dX10_init_93 : decode cX10_init 93 = .ok (.sipush 4900, 3) := by decide +kernel
theorem dX10_init_96 : decode cX10_init 96 = .ok (.newarray .long, 2) := by decide +kernel
theorem dX10_init_98 : decode cX10_init 98 = .ok (.putfield 64, 3) := by decide +kernel
theorem w_387 : Cond.fieldLink "QuarterWalks" 64 "QuarterWalks" "scratch" "[J" ∈ wAll := wIn 387 (by decide +kernel) (by decide +kernel)
theorem flw_X10_64 : flw RX10 64 11 8 (.array (.long)) := ⟨RX10, TX10, 10, tyX10, rfl, inA_X10, by decide, w_387, tyX10_ok, nmX10, by decide +kernel, Or.inr ⟨rfl, rfl⟩⟩
theorem dX10_init_101 : decode cX10_init 101 = .ok (.aload_n 0, 1) := by decide +kernel
theorem dX10_init_102 : decode cX10_init 102 = .ok (.new 68, 3) := by decide +kernel
theorem w_347 : Cond.classLink "QuarterWalks" 68 "java/lang/StringBuilder" ∈ wAll := wIn 347 (by decide +kernel) (by decide +kernel)
theorem w_348 : Cond.instantiable "java/lang/StringBuilder" 4 ∈ wAll := wIn 348 (by decide +kernel) (by decide +kernel)
theorem w_107 : Cond.initialized "java/lang/StringBuilder" ∈ wAll := wIn 107 (by decide +kernel) (by decide +kernel)
theorem nw_X10_68 : nw RX10 68 0 4 [.null, .int 0, .int 0, .int 0] := ⟨RJ4, TJ4, tyJ4, rfl, inA_J4, tyJ4_ok, w_347, w_348, w_107, by decide +kernel⟩
theorem dX10_init_105 : decode cX10_init 105 = .ok (.dup, 1) := by decide +kernel
theorem dX10_init_106 : decode cX10_init 106 = .ok (.invokespecial 70, 3) := by decide +kernel
theorem w_349 : Cond.methodLink "QuarterWalks" 70 yJ4_init_da8c8 ∈ wAll := wIn 349 (by decide +kernel) (by decide +kernel)
theorem mk_J4_init_da8c8 : mk yJ4_init_da8c8 0 := ⟨by decide +kernel, w_107⟩
theorem w_350 : Cond.instanceMethod yJ4_init_da8c8 ∈ wAll := wIn 350 (by decide +kernel) (by decide +kernel)
theorem w_351 : Cond.code yJ4_init_da8c8 cJ4_init_da8c8 1 none ∈ wAll := wIn 351 (by decide +kernel) (by decide +kernel)
theorem dX10_init_109 : decode cX10_init 109 = .ok (.putfield 71, 3) := by decide +kernel
theorem w_388 : Cond.fieldLink "QuarterWalks" 71 "QuarterWalks" "script" "Ljava/lang/StringBuilder;" ∈ wAll := wIn 388 (by decide +kernel) (by decide +kernel)
theorem flw_X10_71 : flw RX10 71 11 9 (.object "java/lang/StringBuilder") := ⟨RX10, TX10, 10, tyX10, rfl, inA_X10, by decide, w_388, tyX10_ok, nmX10, by decide +kernel, Or.inr ⟨rfl, rfl⟩⟩
theorem dX10_init_112 : decode cX10_init 112 = .ok (.return_, 1) := by decide +kernel
theorem dX11_init_0 : decode cX11_init 0 = .ok (.aload_n 0, 1) := by decide +kernel
theorem dX11_init_1 : decode cX11_init 1 = .ok (.invokespecial 3, 3) := by decide +kernel
theorem w_1432 : Cond.methodLink "QuarterWalksModel" 3 objectInit ∈ wAll := wIn 1432 (by decide +kernel) (by decide +kernel)
theorem dX11_init_4 : decode cX11_init 4 = .ok (.aload_n 0, 1) := by decide +kernel
theorem dX11_init_5 : decode cX11_init 5 = .ok (.sipush 200, 3) := by decide +kernel
theorem dX11_init_8 : decode cX11_init 8 = .ok (.newarray .byte, 2) := by decide +kernel
theorem dX11_init_10 : decode cX11_init 10 = .ok (.putfield 9, 3) := by decide +kernel
theorem flw_X11_9 : flw RX11 9 12 1 (.array (.byte)) := ⟨RX11, TX11, 32, tyX11, rfl, inA_X11, by decide, w_1434, tyX11_ok, nmX11, by decide +kernel, Or.inr ⟨rfl, rfl⟩⟩
theorem dX11_init_13 : decode cX11_init 13 = .ok (.aload_n 0, 1) := by decide +kernel
theorem dX11_init_14 : decode cX11_init 14 = .ok (.bipush 10, 2) := by decide +kernel
theorem dX11_init_16 : decode cX11_init 16 = .ok (.newarray .int, 2) := by decide +kernel
theorem dX11_init_18 : decode cX11_init 18 = .ok (.putfield 13, 3) := by decide +kernel
theorem flw_X11_13 : flw RX11 13 12 5 (.array (.int)) := ⟨RX11, TX11, 32, tyX11, rfl, inA_X11, by decide, w_1438, tyX11_ok, nmX11, by decide +kernel, Or.inr ⟨rfl, rfl⟩⟩
theorem dX11_init_21 : decode cX11_init 21 = .ok (.aload_n 0, 1) := by decide +kernel
theorem dX11_init_22 : decode cX11_init 22 = .ok (.bipush 81, 2) := by decide +kernel
theorem dX11_init_24 : decode cX11_init 24 = .ok (.newarray .int, 2) := by decide +kernel
theorem dX11_init_26 : decode cX11_init 26 = .ok (.putfield 17, 3) := by decide +kernel
theorem flw_X11_17 : flw RX11 17 12 6 (.array (.int)) := ⟨RX11, TX11, 32, tyX11, rfl, inA_X11, by decide, w_1439, tyX11_ok, nmX11, by decide +kernel, Or.inr ⟨rfl, rfl⟩⟩
theorem dX11_init_29 : decode cX11_init 29 = .ok (.aload_n 0, 1) := by decide +kernel
theorem dX11_init_30 : decode cX11_init 30 = .ok (.bipush 81, 2) := by decide +kernel
theorem dX11_init_32 : decode cX11_init 32 = .ok (.newarray .int, 2) := by decide +kernel
theorem dX11_init_34 : decode cX11_init 34 = .ok (.putfield 20, 3) := by decide +kernel
theorem flw_X11_20 : flw RX11 20 12 7 (.array (.int)) := ⟨RX11, TX11, 32, tyX11, rfl, inA_X11, by decide, w_1440, tyX11_ok, nmX11, by decide +kernel, Or.inr ⟨rfl, rfl⟩⟩
theorem dX11_init_37 : decode cX11_init 37 = .ok (.aload_n 0, 1) := by decide +kernel
theorem dX11_init_38 : decode cX11_init 38 = .ok (.sipush 972, 3) := by decide +kernel
theorem dX11_init_41 : decode cX11_init 41 = .ok (.newarray .int, 2) := by decide +kernel
theorem dX11_init_43 : decode cX11_init 43 = .ok (.putfield 23, 3) := by decide +kernel
theorem w_1441 : Cond.fieldLink "QuarterWalksModel" 23 "QuarterWalksModel" "kept" "[I" ∈ wAll := wIn 1441 (by decide +kernel) (by decide +kernel)
theorem flw_X11_23 : flw RX11 23 12 8 (.array (.int)) := ⟨RX11, TX11, 32, tyX11, rfl, inA_X11, by decide, w_1441, tyX11_ok, nmX11, by decide +kernel, Or.inr ⟨rfl, rfl⟩⟩
theorem dX11_init_46 : decode cX11_init 46 = .ok (.aload_n 0, 1) := by decide +kernel
theorem dX11_init_47 : decode cX11_init 47 = .ok (.iconst 4, 1) := by decide +kernel
theorem dX11_init_48 : decode cX11_init 48 = .ok (.newarray .int, 2) := by decide +kernel
theorem dX11_init_50 : decode cX11_init 50 = .ok (.putfield 26, 3) := by decide +kernel
theorem flw_X11_26 : flw RX11 26 12 9 (.array (.int)) := ⟨RX11, TX11, 32, tyX11, rfl, inA_X11, by decide, w_1442, tyX11_ok, nmX11, by decide +kernel, Or.inr ⟨rfl, rfl⟩⟩
theorem dX11_init_53 : decode cX11_init 53 = .ok (.aload_n 0, 1) := by decide +kernel
theorem dX11_init_54 : decode cX11_init 54 = .ok (.sipush 19600, 3) := by decide +kernel
theorem dX11_init_57 : decode cX11_init 57 = .ok (.newarray .long, 2) := by decide +kernel
theorem dX11_init_59 : decode cX11_init 59 = .ok (.putfield 29, 3) := by decide +kernel
theorem w_1445 : Cond.fieldLink "QuarterWalksModel" 29 "QuarterWalksModel" "grid" "[J" ∈ wAll := wIn 1445 (by decide +kernel) (by decide +kernel)
theorem flw_X11_29 : flw RX11 29 12 12 (.array (.long)) := ⟨RX11, TX11, 32, tyX11, rfl, inA_X11, by decide, w_1445, tyX11_ok, nmX11, by decide +kernel, Or.inl rfl⟩
theorem dX11_init_62 : decode cX11_init 62 = .ok (.aload_n 0, 1) := by decide +kernel
theorem dX11_init_63 : decode cX11_init 63 = .ok (.sipush 19600, 3) := by decide +kernel
theorem dX11_init_66 : decode cX11_init 66 = .ok (.newarray .long, 2) := by decide +kernel
theorem dX11_init_68 : decode cX11_init 68 = .ok (.putfield 33, 3) := by decide +kernel
theorem w_1446 : Cond.fieldLink "QuarterWalksModel" 33 "QuarterWalksModel" "next" "[J" ∈ wAll := wIn 1446 (by decide +kernel) (by decide +kernel)
theorem flw_X11_33 : flw RX11 33 12 13 (.array (.long)) := ⟨RX11, TX11, 32, tyX11, rfl, inA_X11, by decide, w_1446, tyX11_ok, nmX11, by decide +kernel, Or.inl rfl⟩
theorem dX11_init_71 : decode cX11_init 71 = .ok (.aload_n 0, 1) := by decide +kernel
theorem dX11_init_72 : decode cX11_init 72 = .ok (.bipush 61, 2) := by decide +kernel
theorem dX11_init_74 : decode cX11_init 74 = .ok (.newarray .int, 2) := by decide +kernel
theorem dX11_init_76 : decode cX11_init 76 = .ok (.putfield 36, 3) := by decide +kernel
theorem w_1448 : Cond.fieldLink "QuarterWalksModel" 36 "QuarterWalksModel" "term" "[I" ∈ wAll := wIn 1448 (by decide +kernel) (by decide +kernel)
theorem flw_X11_36 : flw RX11 36 12 15 (.array (.int)) := ⟨RX11, TX11, 32, tyX11, rfl, inA_X11, by decide, w_1448, tyX11_ok, nmX11, by decide +kernel, Or.inr ⟨rfl, rfl⟩⟩
theorem dX11_init_79 : decode cX11_init 79 = .ok (.aload_n 0, 1) := by decide +kernel
theorem dX11_init_80 : decode cX11_init 80 = .ok (.bipush 61, 2) := by decide +kernel
theorem dX11_init_82 : decode cX11_init 82 = .ok (.newarray .int, 2) := by decide +kernel
theorem dX11_init_84 : decode cX11_init 84 = .ok (.putfield 39, 3) := by decide +kernel
theorem w_1449 : Cond.fieldLink "QuarterWalksModel" 39 "QuarterWalksModel" "other" "[I" ∈ wAll := wIn 1449 (by decide +kernel) (by decide +kernel)
theorem flw_X11_39 : flw RX11 39 12 16 (.array (.int)) := ⟨RX11, TX11, 32, tyX11, rfl, inA_X11, by decide, w_1449, tyX11_ok, nmX11, by decide +kernel, Or.inr ⟨rfl, rfl⟩⟩
theorem dX11_init_87 : decode cX11_init 87 = .ok (.aload_n 0, 1) := by decide +kernel
theorem dX11_init_88 : decode cX11_init 88 = .ok (.sipush 169, 3) := by decide +kernel
theorem dX11_init_91 : decode cX11_init 91 = .ok (.newarray .long, 2) := by decide +kernel
theorem dX11_init_93 : decode cX11_init 93 = .ok (.putfield 42, 3) := by decide +kernel
theorem w_1450 : Cond.fieldLink "QuarterWalksModel" 42 "QuarterWalksModel" "table" "[J" ∈ wAll := wIn 1450 (by decide +kernel) (by decide +kernel)
theorem flw_X11_42 : flw RX11 42 12 17 (.array (.long)) := ⟨RX11, TX11, 32, tyX11, rfl, inA_X11, by decide, w_1450, tyX11_ok, nmX11, by decide +kernel, Or.inr ⟨rfl, rfl⟩⟩
theorem dX11_init_96 : decode cX11_init 96 = .ok (.aload_n 0, 1) := by decide +kernel
theorem dX11_init_97 : decode cX11_init 97 = .ok (.sipush 19600, 3) := by decide +kernel
theorem dX11_init_100 : decode cX11_init 100 = .ok (.newarray .long, 2) := by decide +kernel
theorem dX11_init_102 : decode cX11_init 102 = .ok (.putfield 45, 3) := by decide +kernel
theorem w_1452 : Cond.fieldLink "QuarterWalksModel" 45 "QuarterWalksModel" "held" "[J" ∈ wAll := wIn 1452 (by decide +kernel) (by decide +kernel)
theorem flw_X11_45 : flw RX11 45 12 19 (.array (.long)) := ⟨RX11, TX11, 32, tyX11, rfl, inA_X11, by decide, w_1452, tyX11_ok, nmX11, by decide +kernel, Or.inr ⟨rfl, rfl⟩⟩
theorem dX11_init_105 : decode cX11_init 105 = .ok (.aload_n 0, 1) := by decide +kernel
theorem dX11_init_106 : decode cX11_init 106 = .ok (.bipush 41, 2) := by decide +kernel
theorem dX11_init_108 : decode cX11_init 108 = .ok (.newarray .int, 2) := by decide +kernel
theorem dX11_init_110 : decode cX11_init 110 = .ok (.putfield 48, 3) := by decide +kernel
theorem w_1453 : Cond.fieldLink "QuarterWalksModel" 48 "QuarterWalksModel" "orbitX" "[I" ∈ wAll := wIn 1453 (by decide +kernel) (by decide +kernel)
theorem flw_X11_48 : flw RX11 48 12 20 (.array (.int)) := ⟨RX11, TX11, 32, tyX11, rfl, inA_X11, by decide, w_1453, tyX11_ok, nmX11, by decide +kernel, Or.inr ⟨rfl, rfl⟩⟩
theorem dX11_init_113 : decode cX11_init 113 = .ok (.aload_n 0, 1) := by decide +kernel
theorem dX11_init_114 : decode cX11_init 114 = .ok (.bipush 41, 2) := by decide +kernel
theorem dX11_init_116 : decode cX11_init 116 = .ok (.newarray .int, 2) := by decide +kernel
theorem dX11_init_118 : decode cX11_init 118 = .ok (.putfield 51, 3) := by decide +kernel
theorem w_1454 : Cond.fieldLink "QuarterWalksModel" 51 "QuarterWalksModel" "orbitY" "[I" ∈ wAll := wIn 1454 (by decide +kernel) (by decide +kernel)
theorem flw_X11_51 : flw RX11 51 12 21 (.array (.int)) := ⟨RX11, TX11, 32, tyX11, rfl, inA_X11, by decide, w_1454, tyX11_ok, nmX11, by decide +kernel, Or.inr ⟨rfl, rfl⟩⟩
theorem dX11_init_121 : decode cX11_init 121 = .ok (.aload_n 0, 1) := by decide +kernel
theorem dX11_init_122 : decode cX11_init 122 = .ok (.sipush 1708, 3) := by decide +kernel
theorem dX11_init_125 : decode cX11_init 125 = .ok (.newarray .long, 2) := by decide +kernel
theorem dX11_init_127 : decode cX11_init 127 = .ok (.putfield 54, 3) := by decide +kernel
theorem w_1455 : Cond.fieldLink "QuarterWalksModel" 54 "QuarterWalksModel" "column" "[J" ∈ wAll := wIn 1455 (by decide +kernel) (by decide +kernel)
theorem flw_X11_54 : flw RX11 54 12 22 (.array (.long)) := ⟨RX11, TX11, 32, tyX11, rfl, inA_X11, by decide, w_1455, tyX11_ok, nmX11, by decide +kernel, Or.inr ⟨rfl, rfl⟩⟩
theorem dX11_init_130 : decode cX11_init 130 = .ok (.aload_n 0, 1) := by decide +kernel
theorem dX11_init_131 : decode cX11_init 131 = .ok (.sipush 1708, 3) := by decide +kernel
theorem dX11_init_134 : decode cX11_init 134 = .ok (.newarray .long, 2) := by decide +kernel
theorem dX11_init_136 : decode cX11_init 136 = .ok (.putfield 57, 3) := by decide +kernel
theorem w_1456 : Cond.fieldLink "QuarterWalksModel" 57 "QuarterWalksModel" "reduced" "[J" ∈ wAll := wIn 1456 (by decide +kernel) (by decide +kernel)
theorem flw_X11_57 : flw RX11 57 12 23 (.array (.long)) := ⟨RX11, TX11, 32, tyX11, rfl, inA_X11, by decide, w_1456, tyX11_ok, nmX11, by decide +kernel, Or.inr ⟨rfl, rfl⟩⟩
theorem dX11_init_139 : decode cX11_init 139 = .ok (.aload_n 0, 1) := by decide +kernel
theorem dX11_init_140 : decode cX11_init 140 = .ok (.sipush 784, 3) := by decide +kernel
theorem dX11_init_143 : decode cX11_init 143 = .ok (.newarray .long, 2) := by decide +kernel
theorem dX11_init_145 : decode cX11_init 145 = .ok (.putfield 60, 3) := by decide +kernel
theorem w_1457 : Cond.fieldLink "QuarterWalksModel" 60 "QuarterWalksModel" "made" "[J" ∈ wAll := wIn 1457 (by decide +kernel) (by decide +kernel)
theorem flw_X11_60 : flw RX11 60 12 24 (.array (.long)) := ⟨RX11, TX11, 32, tyX11, rfl, inA_X11, by decide, w_1457, tyX11_ok, nmX11, by decide +kernel, Or.inr ⟨rfl, rfl⟩⟩
theorem dX11_init_148 : decode cX11_init 148 = .ok (.aload_n 0, 1) := by decide +kernel
theorem dX11_init_149 : decode cX11_init 149 = .ok (.bipush 28, 2) := by decide +kernel
theorem dX11_init_151 : decode cX11_init 151 = .ok (.newarray .long, 2) := by decide +kernel
theorem dX11_init_153 : decode cX11_init 153 = .ok (.putfield 63, 3) := by decide +kernel
theorem w_1458 : Cond.fieldLink "QuarterWalksModel" 63 "QuarterWalksModel" "told" "[J" ∈ wAll := wIn 1458 (by decide +kernel) (by decide +kernel)
theorem flw_X11_63 : flw RX11 63 12 25 (.array (.long)) := ⟨RX11, TX11, 32, tyX11, rfl, inA_X11, by decide, w_1458, tyX11_ok, nmX11, by decide +kernel, Or.inr ⟨rfl, rfl⟩⟩
theorem dX11_init_156 : decode cX11_init 156 = .ok (.aload_n 0, 1) := by decide +kernel
theorem dX11_init_157 : decode cX11_init 157 = .ok (.bipush 28, 2) := by decide +kernel
theorem dX11_init_159 : decode cX11_init 159 = .ok (.newarray .int, 2) := by decide +kernel
theorem dX11_init_161 : decode cX11_init 161 = .ok (.putfield 66, 3) := by decide +kernel
theorem w_1459 : Cond.fieldLink "QuarterWalksModel" 66 "QuarterWalksModel" "leads" "[I" ∈ wAll := wIn 1459 (by decide +kernel) (by decide +kernel)
theorem flw_X11_66 : flw RX11 66 12 26 (.array (.int)) := ⟨RX11, TX11, 32, tyX11, rfl, inA_X11, by decide, w_1459, tyX11_ok, nmX11, by decide +kernel, Or.inr ⟨rfl, rfl⟩⟩
theorem dX11_init_164 : decode cX11_init 164 = .ok (.aload_n 0, 1) := by decide +kernel
theorem dX11_init_165 : decode cX11_init 165 = .ok (.sipush 244, 3) := by decide +kernel
theorem dX11_init_168 : decode cX11_init 168 = .ok (.newarray .long, 2) := by decide +kernel
theorem dX11_init_170 : decode cX11_init 170 = .ok (.putfield 69, 3) := by decide +kernel
theorem w_1462 : Cond.fieldLink "QuarterWalksModel" 69 "QuarterWalksModel" "powers" "[J" ∈ wAll := wIn 1462 (by decide +kernel) (by decide +kernel)
theorem flw_X11_69 : flw RX11 69 12 29 (.array (.long)) := ⟨RX11, TX11, 32, tyX11, rfl, inA_X11, by decide, w_1462, tyX11_ok, nmX11, by decide +kernel, Or.inr ⟨rfl, rfl⟩⟩
theorem dX11_init_173 : decode cX11_init 173 = .ok (.aload_n 0, 1) := by decide +kernel
theorem dX11_init_174 : decode cX11_init 174 = .ok (.bipush 80, 2) := by decide +kernel
theorem dX11_init_176 : decode cX11_init 176 = .ok (.newarray .int, 2) := by decide +kernel
theorem dX11_init_178 : decode cX11_init 178 = .ok (.putfield 72, 3) := by decide +kernel
theorem w_1463 : Cond.fieldLink "QuarterWalksModel" 72 "QuarterWalksModel" "said" "[I" ∈ wAll := wIn 1463 (by decide +kernel) (by decide +kernel)
theorem flw_X11_72 : flw RX11 72 12 30 (.array (.int)) := ⟨RX11, TX11, 32, tyX11, rfl, inA_X11, by decide, w_1463, tyX11_ok, nmX11, by decide +kernel, Or.inr ⟨rfl, rfl⟩⟩
theorem dX11_init_181 : decode cX11_init 181 = .ok (.return_, 1) := by decide +kernel
set_option maxRecDepth 100000 in
set_option maxHeartbeats 4000000 in
theorem c_X10_init (l : Launch) (D : va_G) (G : Nat → Nat) (b0 : Nat) (f : hM) (x : Nat) (kx : f x = some (.inr (11, [.null, .null, .null, .null, .null, .null, .null, .null, .null, .null]))) : mV l yX10_init cX10_init 1 { frames := 3, cells := 101, slots := 41750, locals := 53 } D G b0 f [.ref x] (fun f1 => ∃ X : Nat → Nat, X 0 = x ∧ xw G f1 X) := by
  refine met_of (own := RX10) (by decide) rfl (Nat.le_of_ble_eq_true rfl) ?_
  intro p e s m below meth c ls C hr hini hl h
  have hl : lv_has ls 1 [(0, .ref x)] := hl
  obtain ⟨hx, hb, hml, hown, hts, hE0, hlk⟩ := id C
  have o0 := ol_rf x f
  refine lv_aload_n hx hb dX10_init_0 rfl (lv_at hl 0 rfl) ?_
  refine W.objInit hx hb hown (hts _ w_129) (hts _ w_130) (hts _ w_131) rfl (hl.1.trans hml.symm) rfl dX10_init_1 (Nat.le_of_ble_eq_true rfl) (Nat.le_of_ble_eq_true rfl) ?_
  show W _ _ _ _ _ _ _ _ _ _ _ _ _ _ _ (F0 m 4 ls [])
  refine lv_aload_n hx hb dX10_init_4 rfl (lv_at hl 0 rfl) ?_
  refine q_new C h nw_X10_9 (Nat.le_of_ble_eq_true rfl) (Nat.le_of_ble_eq_true rfl) dX10_init_5 (fun q_2177 H nq_2177 h => ?_)
  generalize ef_2178 : hu f q_2177 (.inr (8, [.int 0, .null, .null, .int 0, .int 0, .int 0, .int 0])) = f_2178 at h
  have d_2180 : x ≠ q_2177 := (hne0 nq_2177 kx)
  have k_2179 : f_2178 x = some (.inr (11, [.null, .null, .null, .null, .null, .null, .null, .null, .null, .null])) := by rw [← ef_2178]; exact hu_at kx d_2180
  have k_2181 : f_2178 q_2177 = some (.inr (8, [.int 0, .null, .null, .int 0, .int 0, .int 0, .int 0])) := by rw [← ef_2178]; exact hu_self _ _ _
  have z_2183 : f q_2177 = none := ol_none o0 nq_2177 kx
  have o_2182 := ol_upn ef_2178 z_2183 o0
  refine lv_dup hx hb dX10_init_8 rfl ?_
  refine k_v (r_I C h hl (As := []) (rest := [.ref q_2177, .ref x]) (c_X7_init l D G b0 f_2178 q_2177 k_2181) mk_X7_init rfl w_134 w_135 w_136 ⟨Nat.le_of_ble_eq_true rfl, Nat.le_of_ble_eq_true rfl⟩ rfl (Nat.le_of_ble_eq_true rfl) ⟨Nat.le_of_ble_eq_true rfl, Nat.le_of_ble_eq_true rfl⟩ rfl dX10_init_9) h (fun f_2185 H locs p_2186 h => ?_)
  obtain ⟨a_2187, a_2188, k_2189, k_2190, k_2191, u_2192⟩ := p_2186
  have k_2193 : f_2185 x = some (.inr (11, [.null, .null, .null, .null, .null, .null, .null, .null, .null, .null])) := ol_at u_2192 k_2179 d_2180
  have o_2194 := ol_rel u_2192 z_2183 o_2182
  refine q_put C h k_2193 flw_X10_12 (Or.inl hini) (v := .ref q_2177) rfl rfl (Nat.le_of_ble_eq_true rfl) dX10_init_12 (fun H locs h => ?_)
  have h : hw D b0 s.heap (hu f_2185 x (.inr (11, [.ref q_2177, .null, .null, .null, .null, .null, .null, .null, .null, .null]))) H locs := h
  generalize ef_2195 : hu f_2185 x (.inr (11, [.ref q_2177, .null, .null, .null, .null, .null, .null, .null, .null, .null])) = f_2195 at h
  have k_2196 : f_2195 q_2177 = some (.inr (8, [.int 0, .ref a_2187, .ref a_2188, .int 0, .int 0, .int 0, .int 0])) := by rw [← ef_2195]; exact hu_at k_2189 (Ne.symm d_2180)
  have k_2197 : f_2195 a_2187 = some (.inl (G 1, 200, .inl (fun _ => 0))) := by rw [← ef_2195]; exact hu_at k_2190 (hne (4, 11) (1, 200) k_2193 k_2190 rfl rfl (by decide))
  have k_2198 : f_2195 a_2188 = some (.inl (G 1, 8, .inl (fun _ => 0))) := by rw [← ef_2195]; exact hu_at k_2191 (hne (4, 11) (1, 8) k_2193 k_2191 rfl rfl (by decide))
  have k_2199 : f_2195 x = some (.inr (11, [.ref q_2177, .null, .null, .null, .null, .null, .null, .null, .null, .null])) := by rw [← ef_2195]; exact hu_self _ _ _
  have o_2200 := ol_up ef_2195 o_2194
  refine lv_aload_n hx hb dX10_init_15 rfl (lv_at hl 0 rfl) ?_
  refine q_new C h nw_X10_16 (Nat.le_of_ble_eq_true rfl) (Nat.le_of_ble_eq_true rfl) dX10_init_16 (fun q_2201 H nq_2201 h => ?_)
  generalize ef_2202 : hu f_2195 q_2201 (.inr (1, [.int 0, .null, .null, .null, .int 0, .int 0])) = f_2202 at h
  have d_2204 : q_2177 ≠ q_2201 := (hne0 nq_2201 k_2196)
  have k_2203 : f_2202 q_2177 = some (.inr (8, [.int 0, .ref a_2187, .ref a_2188, .int 0, .int 0, .int 0, .int 0])) := by rw [← ef_2202]; exact hu_at k_2196 d_2204
  have d_2206 : a_2187 ≠ q_2201 := (hne0 nq_2201 k_2197)
  have k_2205 : f_2202 a_2187 = some (.inl (G 1, 200, .inl (fun _ => 0))) := by rw [← ef_2202]; exact hu_at k_2197 d_2206
  have d_2208 : a_2188 ≠ q_2201 := (hne0 nq_2201 k_2198)
  have k_2207 : f_2202 a_2188 = some (.inl (G 1, 8, .inl (fun _ => 0))) := by rw [← ef_2202]; exact hu_at k_2198 d_2208
  have d_2210 : x ≠ q_2201 := (hne0 nq_2201 k_2199)
  have k_2209 : f_2202 x = some (.inr (11, [.ref q_2177, .null, .null, .null, .null, .null, .null, .null, .null, .null])) := by rw [← ef_2202]; exact hu_at k_2199 d_2210
  have k_2211 : f_2202 q_2201 = some (.inr (1, [.int 0, .null, .null, .null, .int 0, .int 0])) := by rw [← ef_2202]; exact hu_self _ _ _
  have z_2213 : f q_2201 = none := ol_none o_2200 nq_2201 k_2199
  have o_2212 := ol_upn ef_2202 z_2213 o_2200
  refine lv_dup hx hb dX10_init_19 rfl ?_
  refine k_v (r_I C h hl (As := []) (rest := [.ref q_2201, .ref x]) (c_X0_init l D G b0 f_2202 q_2201 k_2211) mk_X0_init rfl w_164 w_165 w_166 ⟨Nat.le_of_ble_eq_true rfl, Nat.le_of_ble_eq_true rfl⟩ rfl (Nat.le_of_ble_eq_true rfl) ⟨Nat.le_of_ble_eq_true rfl, Nat.le_of_ble_eq_true rfl⟩ rfl dX10_init_20) h (fun f_2215 H locs p_2216 h => ?_)
  obtain ⟨a_2217, a_2218, a_2219, a_2220, a_2221, k_2222, k_2223, k_2224, k_2225, k_2226, u_2227⟩ := p_2216
  have k_2228 : f_2215 q_2177 = some (.inr (8, [.int 0, .ref a_2187, .ref a_2188, .int 0, .int 0, .int 0, .int 0])) := ol_at u_2227 k_2203 d_2204
  have k_2229 : f_2215 a_2187 = some (.inl (G 1, 200, .inl (fun _ => 0))) := ol_at u_2227 k_2205 d_2206
  have k_2230 : f_2215 a_2188 = some (.inl (G 1, 8, .inl (fun _ => 0))) := ol_at u_2227 k_2207 d_2208
  have k_2231 : f_2215 x = some (.inr (11, [.ref q_2177, .null, .null, .null, .null, .null, .null, .null, .null, .null])) := ol_at u_2227 k_2209 d_2210
  have o_2232 := ol_rel u_2227 z_2213 o_2212
  refine q_put C h k_2231 flw_X10_19 (Or.inl hini) (v := .ref q_2201) rfl rfl (Nat.le_of_ble_eq_true rfl) dX10_init_23 (fun H locs h => ?_)
  have h : hw D b0 s.heap (hu f_2215 x (.inr (11, [.ref q_2177, .ref q_2201, .null, .null, .null, .null, .null, .null, .null, .null]))) H locs := h
  generalize ef_2233 : hu f_2215 x (.inr (11, [.ref q_2177, .ref q_2201, .null, .null, .null, .null, .null, .null, .null, .null])) = f_2233 at h
  have k_2234 : f_2233 q_2177 = some (.inr (8, [.int 0, .ref a_2187, .ref a_2188, .int 0, .int 0, .int 0, .int 0])) := by rw [← ef_2233]; exact hu_at k_2228 (Ne.symm d_2180)
  have k_2235 : f_2233 a_2187 = some (.inl (G 1, 200, .inl (fun _ => 0))) := by rw [← ef_2233]; exact hu_at k_2229 (hne (4, 11) (1, 200) k_2231 k_2229 rfl rfl (by decide))
  have k_2236 : f_2233 a_2188 = some (.inl (G 1, 8, .inl (fun _ => 0))) := by rw [← ef_2233]; exact hu_at k_2230 (hne (4, 11) (1, 8) k_2231 k_2230 rfl rfl (by decide))
  have k_2237 : f_2233 q_2201 = some (.inr (1, [.int 0, .ref a_2217, .ref a_2218, .ref a_2219, .int 0, .int 0])) := by rw [← ef_2233]; exact hu_at k_2222 (Ne.symm d_2210)
  have k_2238 : f_2233 a_2217 = some (.inr (6, [.ref a_2220, .int 0])) := by rw [← ef_2233]; exact hu_at k_2223 (hne (4, 11) (4, 6) k_2231 k_2223 rfl rfl (by decide))
  have k_2239 : f_2233 a_2218 = some (.inr (6, [.ref a_2221, .int 0])) := by rw [← ef_2233]; exact hu_at k_2224 (hne (4, 11) (4, 6) k_2231 k_2224 rfl rfl (by decide))
  have k_2240 : f_2233 a_2220 = some (.inl (G 4, 8, .inr (.inr (.inr (.inr (fun _ => none)))))) := by rw [← ef_2233]; exact hu_at k_2225 (hne (4, 11) (3, 8) k_2231 k_2225 rfl rfl (by decide))
  have k_2241 : f_2233 a_2221 = some (.inl (G 4, 8, .inr (.inr (.inr (.inr (fun _ => none)))))) := by rw [← ef_2233]; exact hu_at k_2226 (hne (4, 11) (3, 8) k_2231 k_2226 rfl rfl (by decide))
  have k_2242 : f_2233 x = some (.inr (11, [.ref q_2177, .ref q_2201, .null, .null, .null, .null, .null, .null, .null, .null])) := by rw [← ef_2233]; exact hu_self _ _ _
  have o_2243 := ol_up ef_2233 o_2232
  refine lv_aload_n hx hb dX10_init_26 rfl (lv_at hl 0 rfl) ?_
  refine q_new C h nw_X10_23 (Nat.le_of_ble_eq_true rfl) (Nat.le_of_ble_eq_true rfl) dX10_init_27 (fun q_2244 H nq_2244 h => ?_)
  generalize ef_2245 : hu f_2233 q_2244 (.inr (3, [.null, .null, .null, .null, .null, .null, .int 0, .int 0, .int 0, .int 0, .int 0])) = f_2245 at h
  have d_2247 : q_2177 ≠ q_2244 := (hne0 nq_2244 k_2234)
  have k_2246 : f_2245 q_2177 = some (.inr (8, [.int 0, .ref a_2187, .ref a_2188, .int 0, .int 0, .int 0, .int 0])) := by rw [← ef_2245]; exact hu_at k_2234 d_2247
  have d_2249 : a_2187 ≠ q_2244 := (hne0 nq_2244 k_2235)
  have k_2248 : f_2245 a_2187 = some (.inl (G 1, 200, .inl (fun _ => 0))) := by rw [← ef_2245]; exact hu_at k_2235 d_2249
  have d_2251 : a_2188 ≠ q_2244 := (hne0 nq_2244 k_2236)
  have k_2250 : f_2245 a_2188 = some (.inl (G 1, 8, .inl (fun _ => 0))) := by rw [← ef_2245]; exact hu_at k_2236 d_2251
  have d_2253 : q_2201 ≠ q_2244 := (hne0 nq_2244 k_2237)
  have k_2252 : f_2245 q_2201 = some (.inr (1, [.int 0, .ref a_2217, .ref a_2218, .ref a_2219, .int 0, .int 0])) := by rw [← ef_2245]; exact hu_at k_2237 d_2253
  have d_2255 : a_2217 ≠ q_2244 := (hne0 nq_2244 k_2238)
  have k_2254 : f_2245 a_2217 = some (.inr (6, [.ref a_2220, .int 0])) := by rw [← ef_2245]; exact hu_at k_2238 d_2255
  have d_2257 : a_2218 ≠ q_2244 := (hne0 nq_2244 k_2239)
  have k_2256 : f_2245 a_2218 = some (.inr (6, [.ref a_2221, .int 0])) := by rw [← ef_2245]; exact hu_at k_2239 d_2257
  have d_2259 : a_2220 ≠ q_2244 := (hne0 nq_2244 k_2240)
  have k_2258 : f_2245 a_2220 = some (.inl (G 4, 8, .inr (.inr (.inr (.inr (fun _ => none)))))) := by rw [← ef_2245]; exact hu_at k_2240 d_2259
  have d_2261 : a_2221 ≠ q_2244 := (hne0 nq_2244 k_2241)
  have k_2260 : f_2245 a_2221 = some (.inl (G 4, 8, .inr (.inr (.inr (.inr (fun _ => none)))))) := by rw [← ef_2245]; exact hu_at k_2241 d_2261
  have d_2263 : x ≠ q_2244 := (hne0 nq_2244 k_2242)
  have k_2262 : f_2245 x = some (.inr (11, [.ref q_2177, .ref q_2201, .null, .null, .null, .null, .null, .null, .null, .null])) := by rw [← ef_2245]; exact hu_at k_2242 d_2263
  have k_2264 : f_2245 q_2244 = some (.inr (3, [.null, .null, .null, .null, .null, .null, .int 0, .int 0, .int 0, .int 0, .int 0])) := by rw [← ef_2245]; exact hu_self _ _ _
  have z_2266 : f q_2244 = none := ol_none o_2243 nq_2244 k_2242
  have o_2265 := ol_upn ef_2245 z_2266 o_2243
  refine lv_dup hx hb dX10_init_30 rfl ?_
  refine k_v (r_I C h hl (As := []) (rest := [.ref q_2244, .ref x]) (c_X2_init l D G b0 f_2245 q_2244 k_2264) mk_X2_init rfl w_208 w_209 w_210 ⟨Nat.le_of_ble_eq_true rfl, Nat.le_of_ble_eq_true rfl⟩ rfl (Nat.le_of_ble_eq_true rfl) ⟨Nat.le_of_ble_eq_true rfl, Nat.le_of_ble_eq_true rfl⟩ rfl dX10_init_31) h (fun f_2268 H locs p_2269 h => ?_)
  obtain ⟨a_2270, a_2271, a_2272, a_2273, a_2274, a_2275, k_2276, u_2277⟩ := p_2269
  have k_2278 : f_2268 q_2177 = some (.inr (8, [.int 0, .ref a_2187, .ref a_2188, .int 0, .int 0, .int 0, .int 0])) := ol_at u_2277 k_2246 d_2247
  have k_2279 : f_2268 a_2187 = some (.inl (G 1, 200, .inl (fun _ => 0))) := ol_at u_2277 k_2248 d_2249
  have k_2280 : f_2268 a_2188 = some (.inl (G 1, 8, .inl (fun _ => 0))) := ol_at u_2277 k_2250 d_2251
  have k_2281 : f_2268 q_2201 = some (.inr (1, [.int 0, .ref a_2217, .ref a_2218, .ref a_2219, .int 0, .int 0])) := ol_at u_2277 k_2252 d_2253
  have k_2282 : f_2268 a_2217 = some (.inr (6, [.ref a_2220, .int 0])) := ol_at u_2277 k_2254 d_2255
  have k_2283 : f_2268 a_2218 = some (.inr (6, [.ref a_2221, .int 0])) := ol_at u_2277 k_2256 d_2257
  have k_2284 : f_2268 a_2220 = some (.inl (G 4, 8, .inr (.inr (.inr (.inr (fun _ => none)))))) := ol_at u_2277 k_2258 d_2259
  have k_2285 : f_2268 a_2221 = some (.inl (G 4, 8, .inr (.inr (.inr (.inr (fun _ => none)))))) := ol_at u_2277 k_2260 d_2261
  have k_2286 : f_2268 x = some (.inr (11, [.ref q_2177, .ref q_2201, .null, .null, .null, .null, .null, .null, .null, .null])) := ol_at u_2277 k_2262 d_2263
  have o_2287 := ol_rel u_2277 z_2266 o_2265
  refine q_put C h k_2286 flw_X10_26 (Or.inl hini) (v := .ref q_2244) rfl rfl (Nat.le_of_ble_eq_true rfl) dX10_init_34 (fun H locs h => ?_)
  have h : hw D b0 s.heap (hu f_2268 x (.inr (11, [.ref q_2177, .ref q_2201, .ref q_2244, .null, .null, .null, .null, .null, .null, .null]))) H locs := h
  generalize ef_2288 : hu f_2268 x (.inr (11, [.ref q_2177, .ref q_2201, .ref q_2244, .null, .null, .null, .null, .null, .null, .null])) = f_2288 at h
  have k_2289 : f_2288 q_2177 = some (.inr (8, [.int 0, .ref a_2187, .ref a_2188, .int 0, .int 0, .int 0, .int 0])) := by rw [← ef_2288]; exact hu_at k_2278 (Ne.symm d_2180)
  have k_2290 : f_2288 a_2187 = some (.inl (G 1, 200, .inl (fun _ => 0))) := by rw [← ef_2288]; exact hu_at k_2279 (hne (4, 11) (1, 200) k_2286 k_2279 rfl rfl (by decide))
  have k_2291 : f_2288 a_2188 = some (.inl (G 1, 8, .inl (fun _ => 0))) := by rw [← ef_2288]; exact hu_at k_2280 (hne (4, 11) (1, 8) k_2286 k_2280 rfl rfl (by decide))
  have k_2292 : f_2288 q_2201 = some (.inr (1, [.int 0, .ref a_2217, .ref a_2218, .ref a_2219, .int 0, .int 0])) := by rw [← ef_2288]; exact hu_at k_2281 (Ne.symm d_2210)
  have k_2293 : f_2288 a_2217 = some (.inr (6, [.ref a_2220, .int 0])) := by rw [← ef_2288]; exact hu_at k_2282 (hne (4, 11) (4, 6) k_2286 k_2282 rfl rfl (by decide))
  have k_2294 : f_2288 a_2218 = some (.inr (6, [.ref a_2221, .int 0])) := by rw [← ef_2288]; exact hu_at k_2283 (hne (4, 11) (4, 6) k_2286 k_2283 rfl rfl (by decide))
  have k_2295 : f_2288 a_2220 = some (.inl (G 4, 8, .inr (.inr (.inr (.inr (fun _ => none)))))) := by rw [← ef_2288]; exact hu_at k_2284 (hne (4, 11) (3, 8) k_2286 k_2284 rfl rfl (by decide))
  have k_2296 : f_2288 a_2221 = some (.inl (G 4, 8, .inr (.inr (.inr (.inr (fun _ => none)))))) := by rw [← ef_2288]; exact hu_at k_2285 (hne (4, 11) (3, 8) k_2286 k_2285 rfl rfl (by decide))
  have k_2297 : f_2288 q_2244 = some (.inr (3, [.ref a_2270, .ref a_2271, .ref a_2272, .ref a_2273, .ref a_2274, .ref a_2275, .int 0, .int 0, .int 0, .int 0, .int 0])) := by rw [← ef_2288]; exact hu_at k_2276 (Ne.symm d_2263)
  have k_2298 : f_2288 x = some (.inr (11, [.ref q_2177, .ref q_2201, .ref q_2244, .null, .null, .null, .null, .null, .null, .null])) := by rw [← ef_2288]; exact hu_self _ _ _
  have o_2299 := ol_up ef_2288 o_2287
  refine lv_aload_n hx hb dX10_init_37 rfl (lv_at hl 0 rfl) ?_
  refine q_new C h nw_X10_30 (Nat.le_of_ble_eq_true rfl) (Nat.le_of_ble_eq_true rfl) dX10_init_38 (fun q_2300 H nq_2300 h => ?_)
  generalize ef_2301 : hu f_2288 q_2300 (.inr (10, [.null, .int 0, .int 0, .int 0])) = f_2301 at h
  have d_2303 : q_2177 ≠ q_2300 := (hne0 nq_2300 k_2289)
  have k_2302 : f_2301 q_2177 = some (.inr (8, [.int 0, .ref a_2187, .ref a_2188, .int 0, .int 0, .int 0, .int 0])) := by rw [← ef_2301]; exact hu_at k_2289 d_2303
  have d_2305 : a_2187 ≠ q_2300 := (hne0 nq_2300 k_2290)
  have k_2304 : f_2301 a_2187 = some (.inl (G 1, 200, .inl (fun _ => 0))) := by rw [← ef_2301]; exact hu_at k_2290 d_2305
  have d_2307 : a_2188 ≠ q_2300 := (hne0 nq_2300 k_2291)
  have k_2306 : f_2301 a_2188 = some (.inl (G 1, 8, .inl (fun _ => 0))) := by rw [← ef_2301]; exact hu_at k_2291 d_2307
  have d_2309 : q_2201 ≠ q_2300 := (hne0 nq_2300 k_2292)
  have k_2308 : f_2301 q_2201 = some (.inr (1, [.int 0, .ref a_2217, .ref a_2218, .ref a_2219, .int 0, .int 0])) := by rw [← ef_2301]; exact hu_at k_2292 d_2309
  have d_2311 : a_2217 ≠ q_2300 := (hne0 nq_2300 k_2293)
  have k_2310 : f_2301 a_2217 = some (.inr (6, [.ref a_2220, .int 0])) := by rw [← ef_2301]; exact hu_at k_2293 d_2311
  have d_2313 : a_2218 ≠ q_2300 := (hne0 nq_2300 k_2294)
  have k_2312 : f_2301 a_2218 = some (.inr (6, [.ref a_2221, .int 0])) := by rw [← ef_2301]; exact hu_at k_2294 d_2313
  have d_2315 : a_2220 ≠ q_2300 := (hne0 nq_2300 k_2295)
  have k_2314 : f_2301 a_2220 = some (.inl (G 4, 8, .inr (.inr (.inr (.inr (fun _ => none)))))) := by rw [← ef_2301]; exact hu_at k_2295 d_2315
  have d_2317 : a_2221 ≠ q_2300 := (hne0 nq_2300 k_2296)
  have k_2316 : f_2301 a_2221 = some (.inl (G 4, 8, .inr (.inr (.inr (.inr (fun _ => none)))))) := by rw [← ef_2301]; exact hu_at k_2296 d_2317
  have d_2319 : q_2244 ≠ q_2300 := (hne0 nq_2300 k_2297)
  have k_2318 : f_2301 q_2244 = some (.inr (3, [.ref a_2270, .ref a_2271, .ref a_2272, .ref a_2273, .ref a_2274, .ref a_2275, .int 0, .int 0, .int 0, .int 0, .int 0])) := by rw [← ef_2301]; exact hu_at k_2297 d_2319
  have d_2321 : x ≠ q_2300 := (hne0 nq_2300 k_2298)
  have k_2320 : f_2301 x = some (.inr (11, [.ref q_2177, .ref q_2201, .ref q_2244, .null, .null, .null, .null, .null, .null, .null])) := by rw [← ef_2301]; exact hu_at k_2298 d_2321
  have k_2322 : f_2301 q_2300 = some (.inr (10, [.null, .int 0, .int 0, .int 0])) := by rw [← ef_2301]; exact hu_self _ _ _
  have z_2324 : f q_2300 = none := ol_none o_2299 nq_2300 k_2298
  have o_2323 := ol_upn ef_2301 z_2324 o_2299
  refine lv_dup hx hb dX10_init_41 rfl ?_
  refine k_v (r_I C h hl (As := []) (rest := [.ref q_2300, .ref x]) (c_X9_init l D G b0 f_2301 q_2300 k_2322) mk_X9_init rfl w_272 w_273 w_274 ⟨Nat.le_of_ble_eq_true rfl, Nat.le_of_ble_eq_true rfl⟩ rfl (Nat.le_of_ble_eq_true rfl) ⟨Nat.le_of_ble_eq_true rfl, Nat.le_of_ble_eq_true rfl⟩ rfl dX10_init_42) h (fun f_2326 H locs p_2327 h => ?_)
  obtain ⟨a_2328, k_2329, u_2330⟩ := p_2327
  have k_2331 : f_2326 q_2177 = some (.inr (8, [.int 0, .ref a_2187, .ref a_2188, .int 0, .int 0, .int 0, .int 0])) := ol_at u_2330 k_2302 d_2303
  have k_2332 : f_2326 a_2187 = some (.inl (G 1, 200, .inl (fun _ => 0))) := ol_at u_2330 k_2304 d_2305
  have k_2333 : f_2326 a_2188 = some (.inl (G 1, 8, .inl (fun _ => 0))) := ol_at u_2330 k_2306 d_2307
  have k_2334 : f_2326 q_2201 = some (.inr (1, [.int 0, .ref a_2217, .ref a_2218, .ref a_2219, .int 0, .int 0])) := ol_at u_2330 k_2308 d_2309
  have k_2335 : f_2326 a_2217 = some (.inr (6, [.ref a_2220, .int 0])) := ol_at u_2330 k_2310 d_2311
  have k_2336 : f_2326 a_2218 = some (.inr (6, [.ref a_2221, .int 0])) := ol_at u_2330 k_2312 d_2313
  have k_2337 : f_2326 a_2220 = some (.inl (G 4, 8, .inr (.inr (.inr (.inr (fun _ => none)))))) := ol_at u_2330 k_2314 d_2315
  have k_2338 : f_2326 a_2221 = some (.inl (G 4, 8, .inr (.inr (.inr (.inr (fun _ => none)))))) := ol_at u_2330 k_2316 d_2317
  have k_2339 : f_2326 q_2244 = some (.inr (3, [.ref a_2270, .ref a_2271, .ref a_2272, .ref a_2273, .ref a_2274, .ref a_2275, .int 0, .int 0, .int 0, .int 0, .int 0])) := ol_at u_2330 k_2318 d_2319
  have k_2340 : f_2326 x = some (.inr (11, [.ref q_2177, .ref q_2201, .ref q_2244, .null, .null, .null, .null, .null, .null, .null])) := ol_at u_2330 k_2320 d_2321
  have o_2341 := ol_rel u_2330 z_2324 o_2323
  refine q_put C h k_2340 flw_X10_33 (Or.inl hini) (v := .ref q_2300) rfl rfl (Nat.le_of_ble_eq_true rfl) dX10_init_45 (fun H locs h => ?_)
  have h : hw D b0 s.heap (hu f_2326 x (.inr (11, [.ref q_2177, .ref q_2201, .ref q_2244, .ref q_2300, .null, .null, .null, .null, .null, .null]))) H locs := h
  generalize ef_2342 : hu f_2326 x (.inr (11, [.ref q_2177, .ref q_2201, .ref q_2244, .ref q_2300, .null, .null, .null, .null, .null, .null])) = f_2342 at h
  have k_2343 : f_2342 q_2177 = some (.inr (8, [.int 0, .ref a_2187, .ref a_2188, .int 0, .int 0, .int 0, .int 0])) := by rw [← ef_2342]; exact hu_at k_2331 (Ne.symm d_2180)
  have k_2344 : f_2342 a_2187 = some (.inl (G 1, 200, .inl (fun _ => 0))) := by rw [← ef_2342]; exact hu_at k_2332 (hne (4, 11) (1, 200) k_2340 k_2332 rfl rfl (by decide))
  have k_2345 : f_2342 a_2188 = some (.inl (G 1, 8, .inl (fun _ => 0))) := by rw [← ef_2342]; exact hu_at k_2333 (hne (4, 11) (1, 8) k_2340 k_2333 rfl rfl (by decide))
  have k_2346 : f_2342 q_2201 = some (.inr (1, [.int 0, .ref a_2217, .ref a_2218, .ref a_2219, .int 0, .int 0])) := by rw [← ef_2342]; exact hu_at k_2334 (Ne.symm d_2210)
  have k_2347 : f_2342 a_2217 = some (.inr (6, [.ref a_2220, .int 0])) := by rw [← ef_2342]; exact hu_at k_2335 (hne (4, 11) (4, 6) k_2340 k_2335 rfl rfl (by decide))
  have k_2348 : f_2342 a_2218 = some (.inr (6, [.ref a_2221, .int 0])) := by rw [← ef_2342]; exact hu_at k_2336 (hne (4, 11) (4, 6) k_2340 k_2336 rfl rfl (by decide))
  have k_2349 : f_2342 a_2220 = some (.inl (G 4, 8, .inr (.inr (.inr (.inr (fun _ => none)))))) := by rw [← ef_2342]; exact hu_at k_2337 (hne (4, 11) (3, 8) k_2340 k_2337 rfl rfl (by decide))
  have k_2350 : f_2342 a_2221 = some (.inl (G 4, 8, .inr (.inr (.inr (.inr (fun _ => none)))))) := by rw [← ef_2342]; exact hu_at k_2338 (hne (4, 11) (3, 8) k_2340 k_2338 rfl rfl (by decide))
  have k_2351 : f_2342 q_2244 = some (.inr (3, [.ref a_2270, .ref a_2271, .ref a_2272, .ref a_2273, .ref a_2274, .ref a_2275, .int 0, .int 0, .int 0, .int 0, .int 0])) := by rw [← ef_2342]; exact hu_at k_2339 (Ne.symm d_2263)
  have k_2352 : f_2342 q_2300 = some (.inr (10, [.ref a_2328, .int 0, .int 0, .int 0])) := by rw [← ef_2342]; exact hu_at k_2329 (Ne.symm d_2321)
  have k_2353 : f_2342 x = some (.inr (11, [.ref q_2177, .ref q_2201, .ref q_2244, .ref q_2300, .null, .null, .null, .null, .null, .null])) := by rw [← ef_2342]; exact hu_self _ _ _
  have o_2354 := ol_up ef_2342 o_2341
  refine lv_aload_n hx hb dX10_init_48 rfl (lv_at hl 0 rfl) ?_
  refine q_new C h nw_X10_37 (Nat.le_of_ble_eq_true rfl) (Nat.le_of_ble_eq_true rfl) dX10_init_49 (fun q_2355 H nq_2355 h => ?_)
  generalize ef_2356 : hu f_2342 q_2355 (.inr (9, [.null, .null])) = f_2356 at h
  have d_2358 : q_2177 ≠ q_2355 := (hne0 nq_2355 k_2343)
  have k_2357 : f_2356 q_2177 = some (.inr (8, [.int 0, .ref a_2187, .ref a_2188, .int 0, .int 0, .int 0, .int 0])) := by rw [← ef_2356]; exact hu_at k_2343 d_2358
  have d_2360 : a_2187 ≠ q_2355 := (hne0 nq_2355 k_2344)
  have k_2359 : f_2356 a_2187 = some (.inl (G 1, 200, .inl (fun _ => 0))) := by rw [← ef_2356]; exact hu_at k_2344 d_2360
  have d_2362 : a_2188 ≠ q_2355 := (hne0 nq_2355 k_2345)
  have k_2361 : f_2356 a_2188 = some (.inl (G 1, 8, .inl (fun _ => 0))) := by rw [← ef_2356]; exact hu_at k_2345 d_2362
  have d_2364 : q_2201 ≠ q_2355 := (hne0 nq_2355 k_2346)
  have k_2363 : f_2356 q_2201 = some (.inr (1, [.int 0, .ref a_2217, .ref a_2218, .ref a_2219, .int 0, .int 0])) := by rw [← ef_2356]; exact hu_at k_2346 d_2364
  have d_2366 : a_2217 ≠ q_2355 := (hne0 nq_2355 k_2347)
  have k_2365 : f_2356 a_2217 = some (.inr (6, [.ref a_2220, .int 0])) := by rw [← ef_2356]; exact hu_at k_2347 d_2366
  have d_2368 : a_2218 ≠ q_2355 := (hne0 nq_2355 k_2348)
  have k_2367 : f_2356 a_2218 = some (.inr (6, [.ref a_2221, .int 0])) := by rw [← ef_2356]; exact hu_at k_2348 d_2368
  have d_2370 : a_2220 ≠ q_2355 := (hne0 nq_2355 k_2349)
  have k_2369 : f_2356 a_2220 = some (.inl (G 4, 8, .inr (.inr (.inr (.inr (fun _ => none)))))) := by rw [← ef_2356]; exact hu_at k_2349 d_2370
  have d_2372 : a_2221 ≠ q_2355 := (hne0 nq_2355 k_2350)
  have k_2371 : f_2356 a_2221 = some (.inl (G 4, 8, .inr (.inr (.inr (.inr (fun _ => none)))))) := by rw [← ef_2356]; exact hu_at k_2350 d_2372
  have d_2374 : q_2244 ≠ q_2355 := (hne0 nq_2355 k_2351)
  have k_2373 : f_2356 q_2244 = some (.inr (3, [.ref a_2270, .ref a_2271, .ref a_2272, .ref a_2273, .ref a_2274, .ref a_2275, .int 0, .int 0, .int 0, .int 0, .int 0])) := by rw [← ef_2356]; exact hu_at k_2351 d_2374
  have d_2376 : q_2300 ≠ q_2355 := (hne0 nq_2355 k_2352)
  have k_2375 : f_2356 q_2300 = some (.inr (10, [.ref a_2328, .int 0, .int 0, .int 0])) := by rw [← ef_2356]; exact hu_at k_2352 d_2376
  have d_2378 : x ≠ q_2355 := (hne0 nq_2355 k_2353)
  have k_2377 : f_2356 x = some (.inr (11, [.ref q_2177, .ref q_2201, .ref q_2244, .ref q_2300, .null, .null, .null, .null, .null, .null])) := by rw [← ef_2356]; exact hu_at k_2353 d_2378
  have k_2379 : f_2356 q_2355 = some (.inr (9, [.null, .null])) := by rw [← ef_2356]; exact hu_self _ _ _
  have z_2381 : f q_2355 = none := ol_none o_2354 nq_2355 k_2353
  have o_2380 := ol_upn ef_2356 z_2381 o_2354
  refine lv_dup hx hb dX10_init_52 rfl ?_
  refine k_v (r_I C h hl (As := []) (rest := [.ref q_2355, .ref x]) (c_X8_init l D G b0 f_2356 q_2355 k_2379) mk_X8_init rfl w_293 w_294 w_295 ⟨Nat.le_of_ble_eq_true rfl, Nat.le_of_ble_eq_true rfl⟩ rfl (Nat.le_of_ble_eq_true rfl) ⟨Nat.le_of_ble_eq_true rfl, Nat.le_of_ble_eq_true rfl⟩ rfl dX10_init_53) h (fun f_2383 H locs p_2384 h => ?_)
  obtain ⟨a_2385, a_2386, k_2387, u_2388⟩ := p_2384
  have k_2389 : f_2383 q_2177 = some (.inr (8, [.int 0, .ref a_2187, .ref a_2188, .int 0, .int 0, .int 0, .int 0])) := ol_at u_2388 k_2357 d_2358
  have k_2390 : f_2383 a_2187 = some (.inl (G 1, 200, .inl (fun _ => 0))) := ol_at u_2388 k_2359 d_2360
  have k_2391 : f_2383 a_2188 = some (.inl (G 1, 8, .inl (fun _ => 0))) := ol_at u_2388 k_2361 d_2362
  have k_2392 : f_2383 q_2201 = some (.inr (1, [.int 0, .ref a_2217, .ref a_2218, .ref a_2219, .int 0, .int 0])) := ol_at u_2388 k_2363 d_2364
  have k_2393 : f_2383 a_2217 = some (.inr (6, [.ref a_2220, .int 0])) := ol_at u_2388 k_2365 d_2366
  have k_2394 : f_2383 a_2218 = some (.inr (6, [.ref a_2221, .int 0])) := ol_at u_2388 k_2367 d_2368
  have k_2395 : f_2383 a_2220 = some (.inl (G 4, 8, .inr (.inr (.inr (.inr (fun _ => none)))))) := ol_at u_2388 k_2369 d_2370
  have k_2396 : f_2383 a_2221 = some (.inl (G 4, 8, .inr (.inr (.inr (.inr (fun _ => none)))))) := ol_at u_2388 k_2371 d_2372
  have k_2397 : f_2383 q_2244 = some (.inr (3, [.ref a_2270, .ref a_2271, .ref a_2272, .ref a_2273, .ref a_2274, .ref a_2275, .int 0, .int 0, .int 0, .int 0, .int 0])) := ol_at u_2388 k_2373 d_2374
  have k_2398 : f_2383 q_2300 = some (.inr (10, [.ref a_2328, .int 0, .int 0, .int 0])) := ol_at u_2388 k_2375 d_2376
  have k_2399 : f_2383 x = some (.inr (11, [.ref q_2177, .ref q_2201, .ref q_2244, .ref q_2300, .null, .null, .null, .null, .null, .null])) := ol_at u_2388 k_2377 d_2378
  have o_2400 := ol_rel u_2388 z_2381 o_2380
  refine q_put C h k_2399 flw_X10_40 (Or.inl hini) (v := .ref q_2355) rfl rfl (Nat.le_of_ble_eq_true rfl) dX10_init_56 (fun H locs h => ?_)
  have h : hw D b0 s.heap (hu f_2383 x (.inr (11, [.ref q_2177, .ref q_2201, .ref q_2244, .ref q_2300, .ref q_2355, .null, .null, .null, .null, .null]))) H locs := h
  generalize ef_2401 : hu f_2383 x (.inr (11, [.ref q_2177, .ref q_2201, .ref q_2244, .ref q_2300, .ref q_2355, .null, .null, .null, .null, .null])) = f_2401 at h
  have k_2402 : f_2401 q_2177 = some (.inr (8, [.int 0, .ref a_2187, .ref a_2188, .int 0, .int 0, .int 0, .int 0])) := by rw [← ef_2401]; exact hu_at k_2389 (Ne.symm d_2180)
  have k_2403 : f_2401 a_2187 = some (.inl (G 1, 200, .inl (fun _ => 0))) := by rw [← ef_2401]; exact hu_at k_2390 (hne (4, 11) (1, 200) k_2399 k_2390 rfl rfl (by decide))
  have k_2404 : f_2401 a_2188 = some (.inl (G 1, 8, .inl (fun _ => 0))) := by rw [← ef_2401]; exact hu_at k_2391 (hne (4, 11) (1, 8) k_2399 k_2391 rfl rfl (by decide))
  have k_2405 : f_2401 q_2201 = some (.inr (1, [.int 0, .ref a_2217, .ref a_2218, .ref a_2219, .int 0, .int 0])) := by rw [← ef_2401]; exact hu_at k_2392 (Ne.symm d_2210)
  have k_2406 : f_2401 a_2217 = some (.inr (6, [.ref a_2220, .int 0])) := by rw [← ef_2401]; exact hu_at k_2393 (hne (4, 11) (4, 6) k_2399 k_2393 rfl rfl (by decide))
  have k_2407 : f_2401 a_2218 = some (.inr (6, [.ref a_2221, .int 0])) := by rw [← ef_2401]; exact hu_at k_2394 (hne (4, 11) (4, 6) k_2399 k_2394 rfl rfl (by decide))
  have k_2408 : f_2401 a_2220 = some (.inl (G 4, 8, .inr (.inr (.inr (.inr (fun _ => none)))))) := by rw [← ef_2401]; exact hu_at k_2395 (hne (4, 11) (3, 8) k_2399 k_2395 rfl rfl (by decide))
  have k_2409 : f_2401 a_2221 = some (.inl (G 4, 8, .inr (.inr (.inr (.inr (fun _ => none)))))) := by rw [← ef_2401]; exact hu_at k_2396 (hne (4, 11) (3, 8) k_2399 k_2396 rfl rfl (by decide))
  have k_2410 : f_2401 q_2244 = some (.inr (3, [.ref a_2270, .ref a_2271, .ref a_2272, .ref a_2273, .ref a_2274, .ref a_2275, .int 0, .int 0, .int 0, .int 0, .int 0])) := by rw [← ef_2401]; exact hu_at k_2397 (Ne.symm d_2263)
  have k_2411 : f_2401 q_2300 = some (.inr (10, [.ref a_2328, .int 0, .int 0, .int 0])) := by rw [← ef_2401]; exact hu_at k_2398 (Ne.symm d_2321)
  have k_2412 : f_2401 q_2355 = some (.inr (9, [.ref a_2385, .ref a_2386])) := by rw [← ef_2401]; exact hu_at k_2387 (Ne.symm d_2378)
  have k_2413 : f_2401 x = some (.inr (11, [.ref q_2177, .ref q_2201, .ref q_2244, .ref q_2300, .ref q_2355, .null, .null, .null, .null, .null])) := by rw [← ef_2401]; exact hu_self _ _ _
  have o_2414 := ol_up ef_2401 o_2400
  refine lv_aload_n hx hb dX10_init_59 rfl (lv_at hl 0 rfl) ?_
  refine q_new C h nw_X10_44 (Nat.le_of_ble_eq_true rfl) (Nat.le_of_ble_eq_true rfl) dX10_init_60 (fun q_2415 H nq_2415 h => ?_)
  generalize ef_2416 : hu f_2401 q_2415 (.inr (5, [.null, .int 0, .int 0, .int 0])) = f_2416 at h
  have d_2418 : q_2177 ≠ q_2415 := (hne0 nq_2415 k_2402)
  have k_2417 : f_2416 q_2177 = some (.inr (8, [.int 0, .ref a_2187, .ref a_2188, .int 0, .int 0, .int 0, .int 0])) := by rw [← ef_2416]; exact hu_at k_2402 d_2418
  have d_2420 : a_2187 ≠ q_2415 := (hne0 nq_2415 k_2403)
  have k_2419 : f_2416 a_2187 = some (.inl (G 1, 200, .inl (fun _ => 0))) := by rw [← ef_2416]; exact hu_at k_2403 d_2420
  have d_2422 : a_2188 ≠ q_2415 := (hne0 nq_2415 k_2404)
  have k_2421 : f_2416 a_2188 = some (.inl (G 1, 8, .inl (fun _ => 0))) := by rw [← ef_2416]; exact hu_at k_2404 d_2422
  have d_2424 : q_2201 ≠ q_2415 := (hne0 nq_2415 k_2405)
  have k_2423 : f_2416 q_2201 = some (.inr (1, [.int 0, .ref a_2217, .ref a_2218, .ref a_2219, .int 0, .int 0])) := by rw [← ef_2416]; exact hu_at k_2405 d_2424
  have d_2426 : a_2217 ≠ q_2415 := (hne0 nq_2415 k_2406)
  have k_2425 : f_2416 a_2217 = some (.inr (6, [.ref a_2220, .int 0])) := by rw [← ef_2416]; exact hu_at k_2406 d_2426
  have d_2428 : a_2218 ≠ q_2415 := (hne0 nq_2415 k_2407)
  have k_2427 : f_2416 a_2218 = some (.inr (6, [.ref a_2221, .int 0])) := by rw [← ef_2416]; exact hu_at k_2407 d_2428
  have d_2430 : a_2220 ≠ q_2415 := (hne0 nq_2415 k_2408)
  have k_2429 : f_2416 a_2220 = some (.inl (G 4, 8, .inr (.inr (.inr (.inr (fun _ => none)))))) := by rw [← ef_2416]; exact hu_at k_2408 d_2430
  have d_2432 : a_2221 ≠ q_2415 := (hne0 nq_2415 k_2409)
  have k_2431 : f_2416 a_2221 = some (.inl (G 4, 8, .inr (.inr (.inr (.inr (fun _ => none)))))) := by rw [← ef_2416]; exact hu_at k_2409 d_2432
  have d_2434 : q_2244 ≠ q_2415 := (hne0 nq_2415 k_2410)
  have k_2433 : f_2416 q_2244 = some (.inr (3, [.ref a_2270, .ref a_2271, .ref a_2272, .ref a_2273, .ref a_2274, .ref a_2275, .int 0, .int 0, .int 0, .int 0, .int 0])) := by rw [← ef_2416]; exact hu_at k_2410 d_2434
  have d_2436 : q_2300 ≠ q_2415 := (hne0 nq_2415 k_2411)
  have k_2435 : f_2416 q_2300 = some (.inr (10, [.ref a_2328, .int 0, .int 0, .int 0])) := by rw [← ef_2416]; exact hu_at k_2411 d_2436
  have d_2438 : q_2355 ≠ q_2415 := (hne0 nq_2415 k_2412)
  have k_2437 : f_2416 q_2355 = some (.inr (9, [.ref a_2385, .ref a_2386])) := by rw [← ef_2416]; exact hu_at k_2412 d_2438
  have d_2440 : x ≠ q_2415 := (hne0 nq_2415 k_2413)
  have k_2439 : f_2416 x = some (.inr (11, [.ref q_2177, .ref q_2201, .ref q_2244, .ref q_2300, .ref q_2355, .null, .null, .null, .null, .null])) := by rw [← ef_2416]; exact hu_at k_2413 d_2440
  have k_2441 : f_2416 q_2415 = some (.inr (5, [.null, .int 0, .int 0, .int 0])) := by rw [← ef_2416]; exact hu_self _ _ _
  have z_2443 : f q_2415 = none := ol_none o_2414 nq_2415 k_2413
  have o_2442 := ol_upn ef_2416 z_2443 o_2414
  refine lv_dup hx hb dX10_init_63 rfl ?_
  refine k_v (r_I C h hl (As := []) (rest := [.ref q_2415, .ref x]) (c_X4_init l D G b0 f_2416 q_2415 k_2441) mk_X4_init rfl w_308 w_309 w_310 ⟨Nat.le_of_ble_eq_true rfl, Nat.le_of_ble_eq_true rfl⟩ rfl (Nat.le_of_ble_eq_true rfl) ⟨Nat.le_of_ble_eq_true rfl, Nat.le_of_ble_eq_true rfl⟩ rfl dX10_init_64) h (fun f_2445 H locs p_2446 h => ?_)
  obtain ⟨a_2447, k_2448, u_2449⟩ := p_2446
  have k_2450 : f_2445 q_2177 = some (.inr (8, [.int 0, .ref a_2187, .ref a_2188, .int 0, .int 0, .int 0, .int 0])) := ol_at u_2449 k_2417 d_2418
  have k_2451 : f_2445 a_2187 = some (.inl (G 1, 200, .inl (fun _ => 0))) := ol_at u_2449 k_2419 d_2420
  have k_2452 : f_2445 a_2188 = some (.inl (G 1, 8, .inl (fun _ => 0))) := ol_at u_2449 k_2421 d_2422
  have k_2453 : f_2445 q_2201 = some (.inr (1, [.int 0, .ref a_2217, .ref a_2218, .ref a_2219, .int 0, .int 0])) := ol_at u_2449 k_2423 d_2424
  have k_2454 : f_2445 a_2217 = some (.inr (6, [.ref a_2220, .int 0])) := ol_at u_2449 k_2425 d_2426
  have k_2455 : f_2445 a_2218 = some (.inr (6, [.ref a_2221, .int 0])) := ol_at u_2449 k_2427 d_2428
  have k_2456 : f_2445 a_2220 = some (.inl (G 4, 8, .inr (.inr (.inr (.inr (fun _ => none)))))) := ol_at u_2449 k_2429 d_2430
  have k_2457 : f_2445 a_2221 = some (.inl (G 4, 8, .inr (.inr (.inr (.inr (fun _ => none)))))) := ol_at u_2449 k_2431 d_2432
  have k_2458 : f_2445 q_2244 = some (.inr (3, [.ref a_2270, .ref a_2271, .ref a_2272, .ref a_2273, .ref a_2274, .ref a_2275, .int 0, .int 0, .int 0, .int 0, .int 0])) := ol_at u_2449 k_2433 d_2434
  have k_2459 : f_2445 q_2300 = some (.inr (10, [.ref a_2328, .int 0, .int 0, .int 0])) := ol_at u_2449 k_2435 d_2436
  have k_2460 : f_2445 q_2355 = some (.inr (9, [.ref a_2385, .ref a_2386])) := ol_at u_2449 k_2437 d_2438
  have k_2461 : f_2445 x = some (.inr (11, [.ref q_2177, .ref q_2201, .ref q_2244, .ref q_2300, .ref q_2355, .null, .null, .null, .null, .null])) := ol_at u_2449 k_2439 d_2440
  have o_2462 := ol_rel u_2449 z_2443 o_2442
  refine q_put C h k_2461 flw_X10_47 (Or.inl hini) (v := .ref q_2415) rfl rfl (Nat.le_of_ble_eq_true rfl) dX10_init_67 (fun H locs h => ?_)
  have h : hw D b0 s.heap (hu f_2445 x (.inr (11, [.ref q_2177, .ref q_2201, .ref q_2244, .ref q_2300, .ref q_2355, .ref q_2415, .null, .null, .null, .null]))) H locs := h
  generalize ef_2463 : hu f_2445 x (.inr (11, [.ref q_2177, .ref q_2201, .ref q_2244, .ref q_2300, .ref q_2355, .ref q_2415, .null, .null, .null, .null])) = f_2463 at h
  have k_2464 : f_2463 q_2177 = some (.inr (8, [.int 0, .ref a_2187, .ref a_2188, .int 0, .int 0, .int 0, .int 0])) := by rw [← ef_2463]; exact hu_at k_2450 (Ne.symm d_2180)
  have k_2465 : f_2463 a_2187 = some (.inl (G 1, 200, .inl (fun _ => 0))) := by rw [← ef_2463]; exact hu_at k_2451 (hne (4, 11) (1, 200) k_2461 k_2451 rfl rfl (by decide))
  have k_2466 : f_2463 a_2188 = some (.inl (G 1, 8, .inl (fun _ => 0))) := by rw [← ef_2463]; exact hu_at k_2452 (hne (4, 11) (1, 8) k_2461 k_2452 rfl rfl (by decide))
  have k_2467 : f_2463 q_2201 = some (.inr (1, [.int 0, .ref a_2217, .ref a_2218, .ref a_2219, .int 0, .int 0])) := by rw [← ef_2463]; exact hu_at k_2453 (Ne.symm d_2210)
  have k_2468 : f_2463 a_2217 = some (.inr (6, [.ref a_2220, .int 0])) := by rw [← ef_2463]; exact hu_at k_2454 (hne (4, 11) (4, 6) k_2461 k_2454 rfl rfl (by decide))
  have k_2469 : f_2463 a_2218 = some (.inr (6, [.ref a_2221, .int 0])) := by rw [← ef_2463]; exact hu_at k_2455 (hne (4, 11) (4, 6) k_2461 k_2455 rfl rfl (by decide))
  have k_2470 : f_2463 a_2220 = some (.inl (G 4, 8, .inr (.inr (.inr (.inr (fun _ => none)))))) := by rw [← ef_2463]; exact hu_at k_2456 (hne (4, 11) (3, 8) k_2461 k_2456 rfl rfl (by decide))
  have k_2471 : f_2463 a_2221 = some (.inl (G 4, 8, .inr (.inr (.inr (.inr (fun _ => none)))))) := by rw [← ef_2463]; exact hu_at k_2457 (hne (4, 11) (3, 8) k_2461 k_2457 rfl rfl (by decide))
  have k_2472 : f_2463 q_2244 = some (.inr (3, [.ref a_2270, .ref a_2271, .ref a_2272, .ref a_2273, .ref a_2274, .ref a_2275, .int 0, .int 0, .int 0, .int 0, .int 0])) := by rw [← ef_2463]; exact hu_at k_2458 (Ne.symm d_2263)
  have k_2473 : f_2463 q_2300 = some (.inr (10, [.ref a_2328, .int 0, .int 0, .int 0])) := by rw [← ef_2463]; exact hu_at k_2459 (Ne.symm d_2321)
  have k_2474 : f_2463 q_2355 = some (.inr (9, [.ref a_2385, .ref a_2386])) := by rw [← ef_2463]; exact hu_at k_2460 (Ne.symm d_2378)
  have k_2475 : f_2463 q_2415 = some (.inr (5, [.ref a_2447, .int 0, .int 0, .int 0])) := by rw [← ef_2463]; exact hu_at k_2448 (Ne.symm d_2440)
  have k_2476 : f_2463 x = some (.inr (11, [.ref q_2177, .ref q_2201, .ref q_2244, .ref q_2300, .ref q_2355, .ref q_2415, .null, .null, .null, .null])) := by rw [← ef_2463]; exact hu_self _ _ _
  have o_2477 := ol_up ef_2463 o_2462
  refine lv_aload_n hx hb dX10_init_70 rfl (lv_at hl 0 rfl) ?_
  refine q_new C h nw_X10_51 (Nat.le_of_ble_eq_true rfl) (Nat.le_of_ble_eq_true rfl) dX10_init_71 (fun q_2478 H nq_2478 h => ?_)
  generalize ef_2479 : hu f_2463 q_2478 (.inr (4, [.null, .null, .null, .int 0])) = f_2479 at h
  have d_2481 : q_2177 ≠ q_2478 := (hne0 nq_2478 k_2464)
  have k_2480 : f_2479 q_2177 = some (.inr (8, [.int 0, .ref a_2187, .ref a_2188, .int 0, .int 0, .int 0, .int 0])) := by rw [← ef_2479]; exact hu_at k_2464 d_2481
  have d_2483 : a_2187 ≠ q_2478 := (hne0 nq_2478 k_2465)
  have k_2482 : f_2479 a_2187 = some (.inl (G 1, 200, .inl (fun _ => 0))) := by rw [← ef_2479]; exact hu_at k_2465 d_2483
  have d_2485 : a_2188 ≠ q_2478 := (hne0 nq_2478 k_2466)
  have k_2484 : f_2479 a_2188 = some (.inl (G 1, 8, .inl (fun _ => 0))) := by rw [← ef_2479]; exact hu_at k_2466 d_2485
  have d_2487 : q_2201 ≠ q_2478 := (hne0 nq_2478 k_2467)
  have k_2486 : f_2479 q_2201 = some (.inr (1, [.int 0, .ref a_2217, .ref a_2218, .ref a_2219, .int 0, .int 0])) := by rw [← ef_2479]; exact hu_at k_2467 d_2487
  have d_2489 : a_2217 ≠ q_2478 := (hne0 nq_2478 k_2468)
  have k_2488 : f_2479 a_2217 = some (.inr (6, [.ref a_2220, .int 0])) := by rw [← ef_2479]; exact hu_at k_2468 d_2489
  have d_2491 : a_2218 ≠ q_2478 := (hne0 nq_2478 k_2469)
  have k_2490 : f_2479 a_2218 = some (.inr (6, [.ref a_2221, .int 0])) := by rw [← ef_2479]; exact hu_at k_2469 d_2491
  have d_2493 : a_2220 ≠ q_2478 := (hne0 nq_2478 k_2470)
  have k_2492 : f_2479 a_2220 = some (.inl (G 4, 8, .inr (.inr (.inr (.inr (fun _ => none)))))) := by rw [← ef_2479]; exact hu_at k_2470 d_2493
  have d_2495 : a_2221 ≠ q_2478 := (hne0 nq_2478 k_2471)
  have k_2494 : f_2479 a_2221 = some (.inl (G 4, 8, .inr (.inr (.inr (.inr (fun _ => none)))))) := by rw [← ef_2479]; exact hu_at k_2471 d_2495
  have d_2497 : q_2244 ≠ q_2478 := (hne0 nq_2478 k_2472)
  have k_2496 : f_2479 q_2244 = some (.inr (3, [.ref a_2270, .ref a_2271, .ref a_2272, .ref a_2273, .ref a_2274, .ref a_2275, .int 0, .int 0, .int 0, .int 0, .int 0])) := by rw [← ef_2479]; exact hu_at k_2472 d_2497
  have d_2499 : q_2300 ≠ q_2478 := (hne0 nq_2478 k_2473)
  have k_2498 : f_2479 q_2300 = some (.inr (10, [.ref a_2328, .int 0, .int 0, .int 0])) := by rw [← ef_2479]; exact hu_at k_2473 d_2499
  have d_2501 : q_2355 ≠ q_2478 := (hne0 nq_2478 k_2474)
  have k_2500 : f_2479 q_2355 = some (.inr (9, [.ref a_2385, .ref a_2386])) := by rw [← ef_2479]; exact hu_at k_2474 d_2501
  have d_2503 : q_2415 ≠ q_2478 := (hne0 nq_2478 k_2475)
  have k_2502 : f_2479 q_2415 = some (.inr (5, [.ref a_2447, .int 0, .int 0, .int 0])) := by rw [← ef_2479]; exact hu_at k_2475 d_2503
  have d_2505 : x ≠ q_2478 := (hne0 nq_2478 k_2476)
  have k_2504 : f_2479 x = some (.inr (11, [.ref q_2177, .ref q_2201, .ref q_2244, .ref q_2300, .ref q_2355, .ref q_2415, .null, .null, .null, .null])) := by rw [← ef_2479]; exact hu_at k_2476 d_2505
  have k_2506 : f_2479 q_2478 = some (.inr (4, [.null, .null, .null, .int 0])) := by rw [← ef_2479]; exact hu_self _ _ _
  have z_2508 : f q_2478 = none := ol_none o_2477 nq_2478 k_2476
  have o_2507 := ol_upn ef_2479 z_2508 o_2477
  refine lv_dup hx hb dX10_init_74 rfl ?_
  refine lv_aload_n hx hb dX10_init_75 rfl (lv_at hl 0 rfl) ?_
  refine q_get C h k_2504 fl_X10_47 (v := .ref q_2415) rfl dX10_init_76 ?_
  refine k_v (r_I C h hl (As := [.ref q_2415]) (rest := [.ref q_2478, .ref x]) (c_X3_init l D G b0 f_2479 q_2478 k_2506 q_2415) mk_X3_init rfl w_329 w_330 w_331 ⟨Nat.le_of_ble_eq_true rfl, Nat.le_of_ble_eq_true rfl⟩ rfl (Nat.le_of_ble_eq_true rfl) ⟨Nat.le_of_ble_eq_true rfl, Nat.le_of_ble_eq_true rfl⟩ rfl dX10_init_79) h (fun f_2510 H locs p_2511 h => ?_)
  obtain ⟨a_2512, a_2513, k_2514, u_2515⟩ := p_2511
  have k_2516 : f_2510 q_2177 = some (.inr (8, [.int 0, .ref a_2187, .ref a_2188, .int 0, .int 0, .int 0, .int 0])) := ol_at u_2515 k_2480 d_2481
  have k_2517 : f_2510 a_2187 = some (.inl (G 1, 200, .inl (fun _ => 0))) := ol_at u_2515 k_2482 d_2483
  have k_2518 : f_2510 a_2188 = some (.inl (G 1, 8, .inl (fun _ => 0))) := ol_at u_2515 k_2484 d_2485
  have k_2519 : f_2510 q_2201 = some (.inr (1, [.int 0, .ref a_2217, .ref a_2218, .ref a_2219, .int 0, .int 0])) := ol_at u_2515 k_2486 d_2487
  have k_2520 : f_2510 a_2217 = some (.inr (6, [.ref a_2220, .int 0])) := ol_at u_2515 k_2488 d_2489
  have k_2521 : f_2510 a_2218 = some (.inr (6, [.ref a_2221, .int 0])) := ol_at u_2515 k_2490 d_2491
  have k_2522 : f_2510 a_2220 = some (.inl (G 4, 8, .inr (.inr (.inr (.inr (fun _ => none)))))) := ol_at u_2515 k_2492 d_2493
  have k_2523 : f_2510 a_2221 = some (.inl (G 4, 8, .inr (.inr (.inr (.inr (fun _ => none)))))) := ol_at u_2515 k_2494 d_2495
  have k_2524 : f_2510 q_2244 = some (.inr (3, [.ref a_2270, .ref a_2271, .ref a_2272, .ref a_2273, .ref a_2274, .ref a_2275, .int 0, .int 0, .int 0, .int 0, .int 0])) := ol_at u_2515 k_2496 d_2497
  have k_2525 : f_2510 q_2300 = some (.inr (10, [.ref a_2328, .int 0, .int 0, .int 0])) := ol_at u_2515 k_2498 d_2499
  have k_2526 : f_2510 q_2355 = some (.inr (9, [.ref a_2385, .ref a_2386])) := ol_at u_2515 k_2500 d_2501
  have k_2527 : f_2510 q_2415 = some (.inr (5, [.ref a_2447, .int 0, .int 0, .int 0])) := ol_at u_2515 k_2502 d_2503
  have k_2528 : f_2510 x = some (.inr (11, [.ref q_2177, .ref q_2201, .ref q_2244, .ref q_2300, .ref q_2355, .ref q_2415, .null, .null, .null, .null])) := ol_at u_2515 k_2504 d_2505
  have o_2529 := ol_rel u_2515 z_2508 o_2507
  refine q_put C h k_2528 flw_X10_56 (Or.inl hini) (v := .ref q_2478) rfl rfl (Nat.le_of_ble_eq_true rfl) dX10_init_82 (fun H locs h => ?_)
  have h : hw D b0 s.heap (hu f_2510 x (.inr (11, [.ref q_2177, .ref q_2201, .ref q_2244, .ref q_2300, .ref q_2355, .ref q_2415, .ref q_2478, .null, .null, .null]))) H locs := h
  generalize ef_2530 : hu f_2510 x (.inr (11, [.ref q_2177, .ref q_2201, .ref q_2244, .ref q_2300, .ref q_2355, .ref q_2415, .ref q_2478, .null, .null, .null])) = f_2530 at h
  have k_2531 : f_2530 q_2177 = some (.inr (8, [.int 0, .ref a_2187, .ref a_2188, .int 0, .int 0, .int 0, .int 0])) := by rw [← ef_2530]; exact hu_at k_2516 (Ne.symm d_2180)
  have k_2532 : f_2530 a_2187 = some (.inl (G 1, 200, .inl (fun _ => 0))) := by rw [← ef_2530]; exact hu_at k_2517 (hne (4, 11) (1, 200) k_2528 k_2517 rfl rfl (by decide))
  have k_2533 : f_2530 a_2188 = some (.inl (G 1, 8, .inl (fun _ => 0))) := by rw [← ef_2530]; exact hu_at k_2518 (hne (4, 11) (1, 8) k_2528 k_2518 rfl rfl (by decide))
  have k_2534 : f_2530 q_2201 = some (.inr (1, [.int 0, .ref a_2217, .ref a_2218, .ref a_2219, .int 0, .int 0])) := by rw [← ef_2530]; exact hu_at k_2519 (Ne.symm d_2210)
  have k_2535 : f_2530 a_2217 = some (.inr (6, [.ref a_2220, .int 0])) := by rw [← ef_2530]; exact hu_at k_2520 (hne (4, 11) (4, 6) k_2528 k_2520 rfl rfl (by decide))
  have k_2536 : f_2530 a_2218 = some (.inr (6, [.ref a_2221, .int 0])) := by rw [← ef_2530]; exact hu_at k_2521 (hne (4, 11) (4, 6) k_2528 k_2521 rfl rfl (by decide))
  have k_2537 : f_2530 a_2220 = some (.inl (G 4, 8, .inr (.inr (.inr (.inr (fun _ => none)))))) := by rw [← ef_2530]; exact hu_at k_2522 (hne (4, 11) (3, 8) k_2528 k_2522 rfl rfl (by decide))
  have k_2538 : f_2530 a_2221 = some (.inl (G 4, 8, .inr (.inr (.inr (.inr (fun _ => none)))))) := by rw [← ef_2530]; exact hu_at k_2523 (hne (4, 11) (3, 8) k_2528 k_2523 rfl rfl (by decide))
  have k_2539 : f_2530 q_2244 = some (.inr (3, [.ref a_2270, .ref a_2271, .ref a_2272, .ref a_2273, .ref a_2274, .ref a_2275, .int 0, .int 0, .int 0, .int 0, .int 0])) := by rw [← ef_2530]; exact hu_at k_2524 (Ne.symm d_2263)
  have k_2540 : f_2530 q_2300 = some (.inr (10, [.ref a_2328, .int 0, .int 0, .int 0])) := by rw [← ef_2530]; exact hu_at k_2525 (Ne.symm d_2321)
  have k_2541 : f_2530 q_2355 = some (.inr (9, [.ref a_2385, .ref a_2386])) := by rw [← ef_2530]; exact hu_at k_2526 (Ne.symm d_2378)
  have k_2542 : f_2530 q_2415 = some (.inr (5, [.ref a_2447, .int 0, .int 0, .int 0])) := by rw [← ef_2530]; exact hu_at k_2527 (Ne.symm d_2440)
  have k_2543 : f_2530 q_2478 = some (.inr (4, [.ref q_2415, .ref a_2512, .ref a_2513, .int 0])) := by rw [← ef_2530]; exact hu_at k_2514 (Ne.symm d_2505)
  have k_2544 : f_2530 x = some (.inr (11, [.ref q_2177, .ref q_2201, .ref q_2244, .ref q_2300, .ref q_2355, .ref q_2415, .ref q_2478, .null, .null, .null])) := by rw [← ef_2530]; exact hu_self _ _ _
  have o_2545 := ol_up ef_2530 o_2529
  refine lv_aload_n hx hb dX10_init_85 rfl (lv_at hl 0 rfl) ?_
  refine lv_iconst (v := 4) hx hb dX10_init_86 (by decide) ?_
  refine q_newa C h (atype := .int) 1 rfl rfl rfl w_161 (a0 := (4, .inl (fun _ => 0))) (fun _ => rfl) (by decide) (N' := 4) (by decide) (Nat.le_of_ble_eq_true rfl) (Nat.le_of_ble_eq_true rfl) (Nat.le_of_ble_eq_true rfl) dX10_init_87 (fun q_2546 H nq_2546 h => ?_)
  generalize ef_2547 : hu f_2530 q_2546 (.inl (G 1, 4, .inl (fun _ => 0))) = f_2547 at h
  have d_2549 : q_2177 ≠ q_2546 := (hne0 nq_2546 k_2531)
  have k_2548 : f_2547 q_2177 = some (.inr (8, [.int 0, .ref a_2187, .ref a_2188, .int 0, .int 0, .int 0, .int 0])) := by rw [← ef_2547]; exact hu_at k_2531 d_2549
  have d_2551 : a_2187 ≠ q_2546 := (hne0 nq_2546 k_2532)
  have k_2550 : f_2547 a_2187 = some (.inl (G 1, 200, .inl (fun _ => 0))) := by rw [← ef_2547]; exact hu_at k_2532 d_2551
  have d_2553 : a_2188 ≠ q_2546 := (hne0 nq_2546 k_2533)
  have k_2552 : f_2547 a_2188 = some (.inl (G 1, 8, .inl (fun _ => 0))) := by rw [← ef_2547]; exact hu_at k_2533 d_2553
  have d_2555 : q_2201 ≠ q_2546 := (hne0 nq_2546 k_2534)
  have k_2554 : f_2547 q_2201 = some (.inr (1, [.int 0, .ref a_2217, .ref a_2218, .ref a_2219, .int 0, .int 0])) := by rw [← ef_2547]; exact hu_at k_2534 d_2555
  have d_2557 : a_2217 ≠ q_2546 := (hne0 nq_2546 k_2535)
  have k_2556 : f_2547 a_2217 = some (.inr (6, [.ref a_2220, .int 0])) := by rw [← ef_2547]; exact hu_at k_2535 d_2557
  have d_2559 : a_2218 ≠ q_2546 := (hne0 nq_2546 k_2536)
  have k_2558 : f_2547 a_2218 = some (.inr (6, [.ref a_2221, .int 0])) := by rw [← ef_2547]; exact hu_at k_2536 d_2559
  have d_2561 : a_2220 ≠ q_2546 := (hne0 nq_2546 k_2537)
  have k_2560 : f_2547 a_2220 = some (.inl (G 4, 8, .inr (.inr (.inr (.inr (fun _ => none)))))) := by rw [← ef_2547]; exact hu_at k_2537 d_2561
  have d_2563 : a_2221 ≠ q_2546 := (hne0 nq_2546 k_2538)
  have k_2562 : f_2547 a_2221 = some (.inl (G 4, 8, .inr (.inr (.inr (.inr (fun _ => none)))))) := by rw [← ef_2547]; exact hu_at k_2538 d_2563
  have d_2565 : q_2244 ≠ q_2546 := (hne0 nq_2546 k_2539)
  have k_2564 : f_2547 q_2244 = some (.inr (3, [.ref a_2270, .ref a_2271, .ref a_2272, .ref a_2273, .ref a_2274, .ref a_2275, .int 0, .int 0, .int 0, .int 0, .int 0])) := by rw [← ef_2547]; exact hu_at k_2539 d_2565
  have d_2567 : q_2300 ≠ q_2546 := (hne0 nq_2546 k_2540)
  have k_2566 : f_2547 q_2300 = some (.inr (10, [.ref a_2328, .int 0, .int 0, .int 0])) := by rw [← ef_2547]; exact hu_at k_2540 d_2567
  have d_2569 : q_2355 ≠ q_2546 := (hne0 nq_2546 k_2541)
  have k_2568 : f_2547 q_2355 = some (.inr (9, [.ref a_2385, .ref a_2386])) := by rw [← ef_2547]; exact hu_at k_2541 d_2569
  have d_2571 : q_2415 ≠ q_2546 := (hne0 nq_2546 k_2542)
  have k_2570 : f_2547 q_2415 = some (.inr (5, [.ref a_2447, .int 0, .int 0, .int 0])) := by rw [← ef_2547]; exact hu_at k_2542 d_2571
  have d_2573 : q_2478 ≠ q_2546 := (hne0 nq_2546 k_2543)
  have k_2572 : f_2547 q_2478 = some (.inr (4, [.ref q_2415, .ref a_2512, .ref a_2513, .int 0])) := by rw [← ef_2547]; exact hu_at k_2543 d_2573
  have d_2575 : x ≠ q_2546 := (hne0 nq_2546 k_2544)
  have k_2574 : f_2547 x = some (.inr (11, [.ref q_2177, .ref q_2201, .ref q_2244, .ref q_2300, .ref q_2355, .ref q_2415, .ref q_2478, .null, .null, .null])) := by rw [← ef_2547]; exact hu_at k_2544 d_2575
  have k_2576 : f_2547 q_2546 = some (.inl (G 1, 4, .inl (fun _ => 0))) := by rw [← ef_2547]; exact hu_self _ _ _
  have z_2578 : f q_2546 = none := ol_none o_2545 nq_2546 k_2544
  have o_2577 := ol_upn ef_2547 z_2578 o_2545
  refine q_put C h k_2574 flw_X10_60 (Or.inl hini) (v := .ref q_2546) rfl rfl (Nat.le_of_ble_eq_true rfl) dX10_init_89 (fun H locs h => ?_)
  have h : hw D b0 s.heap (hu f_2547 x (.inr (11, [.ref q_2177, .ref q_2201, .ref q_2244, .ref q_2300, .ref q_2355, .ref q_2415, .ref q_2478, .ref q_2546, .null, .null]))) H locs := h
  generalize ef_2579 : hu f_2547 x (.inr (11, [.ref q_2177, .ref q_2201, .ref q_2244, .ref q_2300, .ref q_2355, .ref q_2415, .ref q_2478, .ref q_2546, .null, .null])) = f_2579 at h
  have k_2580 : f_2579 q_2177 = some (.inr (8, [.int 0, .ref a_2187, .ref a_2188, .int 0, .int 0, .int 0, .int 0])) := by rw [← ef_2579]; exact hu_at k_2548 (Ne.symm d_2180)
  have k_2581 : f_2579 a_2187 = some (.inl (G 1, 200, .inl (fun _ => 0))) := by rw [← ef_2579]; exact hu_at k_2550 (hne (4, 11) (1, 200) k_2574 k_2550 rfl rfl (by decide))
  have k_2582 : f_2579 a_2188 = some (.inl (G 1, 8, .inl (fun _ => 0))) := by rw [← ef_2579]; exact hu_at k_2552 (hne (4, 11) (1, 8) k_2574 k_2552 rfl rfl (by decide))
  have k_2583 : f_2579 q_2201 = some (.inr (1, [.int 0, .ref a_2217, .ref a_2218, .ref a_2219, .int 0, .int 0])) := by rw [← ef_2579]; exact hu_at k_2554 (Ne.symm d_2210)
  have k_2584 : f_2579 a_2217 = some (.inr (6, [.ref a_2220, .int 0])) := by rw [← ef_2579]; exact hu_at k_2556 (hne (4, 11) (4, 6) k_2574 k_2556 rfl rfl (by decide))
  have k_2585 : f_2579 a_2218 = some (.inr (6, [.ref a_2221, .int 0])) := by rw [← ef_2579]; exact hu_at k_2558 (hne (4, 11) (4, 6) k_2574 k_2558 rfl rfl (by decide))
  have k_2586 : f_2579 a_2220 = some (.inl (G 4, 8, .inr (.inr (.inr (.inr (fun _ => none)))))) := by rw [← ef_2579]; exact hu_at k_2560 (hne (4, 11) (3, 8) k_2574 k_2560 rfl rfl (by decide))
  have k_2587 : f_2579 a_2221 = some (.inl (G 4, 8, .inr (.inr (.inr (.inr (fun _ => none)))))) := by rw [← ef_2579]; exact hu_at k_2562 (hne (4, 11) (3, 8) k_2574 k_2562 rfl rfl (by decide))
  have k_2588 : f_2579 q_2244 = some (.inr (3, [.ref a_2270, .ref a_2271, .ref a_2272, .ref a_2273, .ref a_2274, .ref a_2275, .int 0, .int 0, .int 0, .int 0, .int 0])) := by rw [← ef_2579]; exact hu_at k_2564 (Ne.symm d_2263)
  have k_2589 : f_2579 q_2300 = some (.inr (10, [.ref a_2328, .int 0, .int 0, .int 0])) := by rw [← ef_2579]; exact hu_at k_2566 (Ne.symm d_2321)
  have k_2590 : f_2579 q_2355 = some (.inr (9, [.ref a_2385, .ref a_2386])) := by rw [← ef_2579]; exact hu_at k_2568 (Ne.symm d_2378)
  have k_2591 : f_2579 q_2415 = some (.inr (5, [.ref a_2447, .int 0, .int 0, .int 0])) := by rw [← ef_2579]; exact hu_at k_2570 (Ne.symm d_2440)
  have k_2592 : f_2579 q_2478 = some (.inr (4, [.ref q_2415, .ref a_2512, .ref a_2513, .int 0])) := by rw [← ef_2579]; exact hu_at k_2572 (Ne.symm d_2505)
  have k_2593 : f_2579 q_2546 = some (.inl (G 1, 4, .inl (fun _ => 0))) := by rw [← ef_2579]; exact hu_at k_2576 (Ne.symm d_2575)
  have k_2594 : f_2579 x = some (.inr (11, [.ref q_2177, .ref q_2201, .ref q_2244, .ref q_2300, .ref q_2355, .ref q_2415, .ref q_2478, .ref q_2546, .null, .null])) := by rw [← ef_2579]; exact hu_self _ _ _
  have o_2595 := ol_up ef_2579 o_2577
  refine lv_aload_n hx hb dX10_init_92 rfl (lv_at hl 0 rfl) ?_
  refine lv_sipush (v := 4900) hx hb dX10_init_93 (by decide) ?_
  refine q_newa C h (atype := .long) 2 rfl rfl rfl w_235 (a0 := (4900, .inr (.inl (fun _ => 0)))) (fun _ => rfl) (by decide) (N' := 4900) (by decide) (Nat.le_of_ble_eq_true rfl) (Nat.le_of_ble_eq_true rfl) (Nat.le_of_ble_eq_true rfl) dX10_init_96 (fun q_2596 H nq_2596 h => ?_)
  generalize ef_2597 : hu f_2579 q_2596 (.inl (G 2, 4900, .inr (.inl (fun _ => 0)))) = f_2597 at h
  have d_2599 : q_2177 ≠ q_2596 := (hne0 nq_2596 k_2580)
  have k_2598 : f_2597 q_2177 = some (.inr (8, [.int 0, .ref a_2187, .ref a_2188, .int 0, .int 0, .int 0, .int 0])) := by rw [← ef_2597]; exact hu_at k_2580 d_2599
  have d_2601 : a_2187 ≠ q_2596 := (hne0 nq_2596 k_2581)
  have k_2600 : f_2597 a_2187 = some (.inl (G 1, 200, .inl (fun _ => 0))) := by rw [← ef_2597]; exact hu_at k_2581 d_2601
  have d_2603 : a_2188 ≠ q_2596 := (hne0 nq_2596 k_2582)
  have k_2602 : f_2597 a_2188 = some (.inl (G 1, 8, .inl (fun _ => 0))) := by rw [← ef_2597]; exact hu_at k_2582 d_2603
  have d_2605 : q_2201 ≠ q_2596 := (hne0 nq_2596 k_2583)
  have k_2604 : f_2597 q_2201 = some (.inr (1, [.int 0, .ref a_2217, .ref a_2218, .ref a_2219, .int 0, .int 0])) := by rw [← ef_2597]; exact hu_at k_2583 d_2605
  have d_2607 : a_2217 ≠ q_2596 := (hne0 nq_2596 k_2584)
  have k_2606 : f_2597 a_2217 = some (.inr (6, [.ref a_2220, .int 0])) := by rw [← ef_2597]; exact hu_at k_2584 d_2607
  have d_2609 : a_2218 ≠ q_2596 := (hne0 nq_2596 k_2585)
  have k_2608 : f_2597 a_2218 = some (.inr (6, [.ref a_2221, .int 0])) := by rw [← ef_2597]; exact hu_at k_2585 d_2609
  have d_2611 : a_2220 ≠ q_2596 := (hne0 nq_2596 k_2586)
  have k_2610 : f_2597 a_2220 = some (.inl (G 4, 8, .inr (.inr (.inr (.inr (fun _ => none)))))) := by rw [← ef_2597]; exact hu_at k_2586 d_2611
  have d_2613 : a_2221 ≠ q_2596 := (hne0 nq_2596 k_2587)
  have k_2612 : f_2597 a_2221 = some (.inl (G 4, 8, .inr (.inr (.inr (.inr (fun _ => none)))))) := by rw [← ef_2597]; exact hu_at k_2587 d_2613
  have d_2615 : q_2244 ≠ q_2596 := (hne0 nq_2596 k_2588)
  have k_2614 : f_2597 q_2244 = some (.inr (3, [.ref a_2270, .ref a_2271, .ref a_2272, .ref a_2273, .ref a_2274, .ref a_2275, .int 0, .int 0, .int 0, .int 0, .int 0])) := by rw [← ef_2597]; exact hu_at k_2588 d_2615
  have d_2617 : q_2300 ≠ q_2596 := (hne0 nq_2596 k_2589)
  have k_2616 : f_2597 q_2300 = some (.inr (10, [.ref a_2328, .int 0, .int 0, .int 0])) := by rw [← ef_2597]; exact hu_at k_2589 d_2617
  have d_2619 : q_2355 ≠ q_2596 := (hne0 nq_2596 k_2590)
  have k_2618 : f_2597 q_2355 = some (.inr (9, [.ref a_2385, .ref a_2386])) := by rw [← ef_2597]; exact hu_at k_2590 d_2619
  have d_2621 : q_2415 ≠ q_2596 := (hne0 nq_2596 k_2591)
  have k_2620 : f_2597 q_2415 = some (.inr (5, [.ref a_2447, .int 0, .int 0, .int 0])) := by rw [← ef_2597]; exact hu_at k_2591 d_2621
  have d_2623 : q_2478 ≠ q_2596 := (hne0 nq_2596 k_2592)
  have k_2622 : f_2597 q_2478 = some (.inr (4, [.ref q_2415, .ref a_2512, .ref a_2513, .int 0])) := by rw [← ef_2597]; exact hu_at k_2592 d_2623
  have d_2625 : q_2546 ≠ q_2596 := (hne0 nq_2596 k_2593)
  have k_2624 : f_2597 q_2546 = some (.inl (G 1, 4, .inl (fun _ => 0))) := by rw [← ef_2597]; exact hu_at k_2593 d_2625
  have d_2627 : x ≠ q_2596 := (hne0 nq_2596 k_2594)
  have k_2626 : f_2597 x = some (.inr (11, [.ref q_2177, .ref q_2201, .ref q_2244, .ref q_2300, .ref q_2355, .ref q_2415, .ref q_2478, .ref q_2546, .null, .null])) := by rw [← ef_2597]; exact hu_at k_2594 d_2627
  have k_2628 : f_2597 q_2596 = some (.inl (G 2, 4900, .inr (.inl (fun _ => 0)))) := by rw [← ef_2597]; exact hu_self _ _ _
  have z_2630 : f q_2596 = none := ol_none o_2595 nq_2596 k_2594
  have o_2629 := ol_upn ef_2597 z_2630 o_2595
  refine q_put C h k_2626 flw_X10_64 (Or.inl hini) (v := .ref q_2596) rfl rfl (Nat.le_of_ble_eq_true rfl) dX10_init_98 (fun H locs h => ?_)
  have h : hw D b0 s.heap (hu f_2597 x (.inr (11, [.ref q_2177, .ref q_2201, .ref q_2244, .ref q_2300, .ref q_2355, .ref q_2415, .ref q_2478, .ref q_2546, .ref q_2596, .null]))) H locs := h
  generalize ef_2631 : hu f_2597 x (.inr (11, [.ref q_2177, .ref q_2201, .ref q_2244, .ref q_2300, .ref q_2355, .ref q_2415, .ref q_2478, .ref q_2546, .ref q_2596, .null])) = f_2631 at h
  have k_2632 : f_2631 q_2177 = some (.inr (8, [.int 0, .ref a_2187, .ref a_2188, .int 0, .int 0, .int 0, .int 0])) := by rw [← ef_2631]; exact hu_at k_2598 (Ne.symm d_2180)
  have k_2633 : f_2631 a_2187 = some (.inl (G 1, 200, .inl (fun _ => 0))) := by rw [← ef_2631]; exact hu_at k_2600 (hne (4, 11) (1, 200) k_2626 k_2600 rfl rfl (by decide))
  have k_2634 : f_2631 a_2188 = some (.inl (G 1, 8, .inl (fun _ => 0))) := by rw [← ef_2631]; exact hu_at k_2602 (hne (4, 11) (1, 8) k_2626 k_2602 rfl rfl (by decide))
  have k_2635 : f_2631 q_2201 = some (.inr (1, [.int 0, .ref a_2217, .ref a_2218, .ref a_2219, .int 0, .int 0])) := by rw [← ef_2631]; exact hu_at k_2604 (Ne.symm d_2210)
  have k_2636 : f_2631 a_2217 = some (.inr (6, [.ref a_2220, .int 0])) := by rw [← ef_2631]; exact hu_at k_2606 (hne (4, 11) (4, 6) k_2626 k_2606 rfl rfl (by decide))
  have k_2637 : f_2631 a_2218 = some (.inr (6, [.ref a_2221, .int 0])) := by rw [← ef_2631]; exact hu_at k_2608 (hne (4, 11) (4, 6) k_2626 k_2608 rfl rfl (by decide))
  have k_2638 : f_2631 a_2220 = some (.inl (G 4, 8, .inr (.inr (.inr (.inr (fun _ => none)))))) := by rw [← ef_2631]; exact hu_at k_2610 (hne (4, 11) (3, 8) k_2626 k_2610 rfl rfl (by decide))
  have k_2639 : f_2631 a_2221 = some (.inl (G 4, 8, .inr (.inr (.inr (.inr (fun _ => none)))))) := by rw [← ef_2631]; exact hu_at k_2612 (hne (4, 11) (3, 8) k_2626 k_2612 rfl rfl (by decide))
  have k_2640 : f_2631 q_2244 = some (.inr (3, [.ref a_2270, .ref a_2271, .ref a_2272, .ref a_2273, .ref a_2274, .ref a_2275, .int 0, .int 0, .int 0, .int 0, .int 0])) := by rw [← ef_2631]; exact hu_at k_2614 (Ne.symm d_2263)
  have k_2641 : f_2631 q_2300 = some (.inr (10, [.ref a_2328, .int 0, .int 0, .int 0])) := by rw [← ef_2631]; exact hu_at k_2616 (Ne.symm d_2321)
  have k_2642 : f_2631 q_2355 = some (.inr (9, [.ref a_2385, .ref a_2386])) := by rw [← ef_2631]; exact hu_at k_2618 (Ne.symm d_2378)
  have k_2643 : f_2631 q_2415 = some (.inr (5, [.ref a_2447, .int 0, .int 0, .int 0])) := by rw [← ef_2631]; exact hu_at k_2620 (Ne.symm d_2440)
  have k_2644 : f_2631 q_2478 = some (.inr (4, [.ref q_2415, .ref a_2512, .ref a_2513, .int 0])) := by rw [← ef_2631]; exact hu_at k_2622 (Ne.symm d_2505)
  have k_2645 : f_2631 q_2546 = some (.inl (G 1, 4, .inl (fun _ => 0))) := by rw [← ef_2631]; exact hu_at k_2624 (Ne.symm d_2575)
  have k_2646 : f_2631 q_2596 = some (.inl (G 2, 4900, .inr (.inl (fun _ => 0)))) := by rw [← ef_2631]; exact hu_at k_2628 (Ne.symm d_2627)
  have k_2647 : f_2631 x = some (.inr (11, [.ref q_2177, .ref q_2201, .ref q_2244, .ref q_2300, .ref q_2355, .ref q_2415, .ref q_2478, .ref q_2546, .ref q_2596, .null])) := by rw [← ef_2631]; exact hu_self _ _ _
  have o_2648 := ol_up ef_2631 o_2629
  refine lv_aload_n hx hb dX10_init_101 rfl (lv_at hl 0 rfl) ?_
  refine q_new C h nw_X10_68 (Nat.le_of_ble_eq_true rfl) (Nat.le_of_ble_eq_true rfl) dX10_init_102 (fun q_2649 H nq_2649 h => ?_)
  generalize ef_2650 : hu f_2631 q_2649 (.inr (0, [.null, .int 0, .int 0, .int 0])) = f_2650 at h
  have d_2652 : q_2177 ≠ q_2649 := (hne0 nq_2649 k_2632)
  have k_2651 : f_2650 q_2177 = some (.inr (8, [.int 0, .ref a_2187, .ref a_2188, .int 0, .int 0, .int 0, .int 0])) := by rw [← ef_2650]; exact hu_at k_2632 d_2652
  have d_2654 : a_2187 ≠ q_2649 := (hne0 nq_2649 k_2633)
  have k_2653 : f_2650 a_2187 = some (.inl (G 1, 200, .inl (fun _ => 0))) := by rw [← ef_2650]; exact hu_at k_2633 d_2654
  have d_2656 : a_2188 ≠ q_2649 := (hne0 nq_2649 k_2634)
  have k_2655 : f_2650 a_2188 = some (.inl (G 1, 8, .inl (fun _ => 0))) := by rw [← ef_2650]; exact hu_at k_2634 d_2656
  have d_2658 : q_2201 ≠ q_2649 := (hne0 nq_2649 k_2635)
  have k_2657 : f_2650 q_2201 = some (.inr (1, [.int 0, .ref a_2217, .ref a_2218, .ref a_2219, .int 0, .int 0])) := by rw [← ef_2650]; exact hu_at k_2635 d_2658
  have d_2660 : a_2217 ≠ q_2649 := (hne0 nq_2649 k_2636)
  have k_2659 : f_2650 a_2217 = some (.inr (6, [.ref a_2220, .int 0])) := by rw [← ef_2650]; exact hu_at k_2636 d_2660
  have d_2662 : a_2218 ≠ q_2649 := (hne0 nq_2649 k_2637)
  have k_2661 : f_2650 a_2218 = some (.inr (6, [.ref a_2221, .int 0])) := by rw [← ef_2650]; exact hu_at k_2637 d_2662
  have d_2664 : a_2220 ≠ q_2649 := (hne0 nq_2649 k_2638)
  have k_2663 : f_2650 a_2220 = some (.inl (G 4, 8, .inr (.inr (.inr (.inr (fun _ => none)))))) := by rw [← ef_2650]; exact hu_at k_2638 d_2664
  have d_2666 : a_2221 ≠ q_2649 := (hne0 nq_2649 k_2639)
  have k_2665 : f_2650 a_2221 = some (.inl (G 4, 8, .inr (.inr (.inr (.inr (fun _ => none)))))) := by rw [← ef_2650]; exact hu_at k_2639 d_2666
  have d_2668 : q_2244 ≠ q_2649 := (hne0 nq_2649 k_2640)
  have k_2667 : f_2650 q_2244 = some (.inr (3, [.ref a_2270, .ref a_2271, .ref a_2272, .ref a_2273, .ref a_2274, .ref a_2275, .int 0, .int 0, .int 0, .int 0, .int 0])) := by rw [← ef_2650]; exact hu_at k_2640 d_2668
  have d_2670 : q_2300 ≠ q_2649 := (hne0 nq_2649 k_2641)
  have k_2669 : f_2650 q_2300 = some (.inr (10, [.ref a_2328, .int 0, .int 0, .int 0])) := by rw [← ef_2650]; exact hu_at k_2641 d_2670
  have d_2672 : q_2355 ≠ q_2649 := (hne0 nq_2649 k_2642)
  have k_2671 : f_2650 q_2355 = some (.inr (9, [.ref a_2385, .ref a_2386])) := by rw [← ef_2650]; exact hu_at k_2642 d_2672
  have d_2674 : q_2415 ≠ q_2649 := (hne0 nq_2649 k_2643)
  have k_2673 : f_2650 q_2415 = some (.inr (5, [.ref a_2447, .int 0, .int 0, .int 0])) := by rw [← ef_2650]; exact hu_at k_2643 d_2674
  have d_2676 : q_2478 ≠ q_2649 := (hne0 nq_2649 k_2644)
  have k_2675 : f_2650 q_2478 = some (.inr (4, [.ref q_2415, .ref a_2512, .ref a_2513, .int 0])) := by rw [← ef_2650]; exact hu_at k_2644 d_2676
  have d_2678 : q_2546 ≠ q_2649 := (hne0 nq_2649 k_2645)
  have k_2677 : f_2650 q_2546 = some (.inl (G 1, 4, .inl (fun _ => 0))) := by rw [← ef_2650]; exact hu_at k_2645 d_2678
  have d_2680 : q_2596 ≠ q_2649 := (hne0 nq_2649 k_2646)
  have k_2679 : f_2650 q_2596 = some (.inl (G 2, 4900, .inr (.inl (fun _ => 0)))) := by rw [← ef_2650]; exact hu_at k_2646 d_2680
  have d_2682 : x ≠ q_2649 := (hne0 nq_2649 k_2647)
  have k_2681 : f_2650 x = some (.inr (11, [.ref q_2177, .ref q_2201, .ref q_2244, .ref q_2300, .ref q_2355, .ref q_2415, .ref q_2478, .ref q_2546, .ref q_2596, .null])) := by rw [← ef_2650]; exact hu_at k_2647 d_2682
  have k_2683 : f_2650 q_2649 = some (.inr (0, [.null, .int 0, .int 0, .int 0])) := by rw [← ef_2650]; exact hu_self _ _ _
  have z_2685 : f q_2649 = none := ol_none o_2648 nq_2649 k_2647
  have o_2684 := ol_upn ef_2650 z_2685 o_2648
  refine lv_dup hx hb dX10_init_105 rfl ?_
  refine k_v (r_I C h hl (As := []) (rest := [.ref q_2649, .ref x]) (c_J4_init_da8c8 l D G b0 f_2650 q_2649 k_2683) mk_J4_init_da8c8 rfl w_349 w_350 w_351 ⟨Nat.le_of_ble_eq_true rfl, Nat.le_of_ble_eq_true rfl⟩ rfl (Nat.le_of_ble_eq_true rfl) ⟨Nat.le_of_ble_eq_true rfl, Nat.le_of_ble_eq_true rfl⟩ rfl dX10_init_106) h (fun f_2687 H locs p_2688 h => ?_)
  obtain ⟨a_2689, k_2690, u_2691⟩ := p_2688
  have k_2692 : f_2687 q_2177 = some (.inr (8, [.int 0, .ref a_2187, .ref a_2188, .int 0, .int 0, .int 0, .int 0])) := ol_at u_2691 k_2651 d_2652
  have k_2693 : f_2687 a_2187 = some (.inl (G 1, 200, .inl (fun _ => 0))) := ol_at u_2691 k_2653 d_2654
  have k_2694 : f_2687 a_2188 = some (.inl (G 1, 8, .inl (fun _ => 0))) := ol_at u_2691 k_2655 d_2656
  have k_2695 : f_2687 q_2201 = some (.inr (1, [.int 0, .ref a_2217, .ref a_2218, .ref a_2219, .int 0, .int 0])) := ol_at u_2691 k_2657 d_2658
  have k_2696 : f_2687 a_2217 = some (.inr (6, [.ref a_2220, .int 0])) := ol_at u_2691 k_2659 d_2660
  have k_2697 : f_2687 a_2218 = some (.inr (6, [.ref a_2221, .int 0])) := ol_at u_2691 k_2661 d_2662
  have k_2698 : f_2687 a_2220 = some (.inl (G 4, 8, .inr (.inr (.inr (.inr (fun _ => none)))))) := ol_at u_2691 k_2663 d_2664
  have k_2699 : f_2687 a_2221 = some (.inl (G 4, 8, .inr (.inr (.inr (.inr (fun _ => none)))))) := ol_at u_2691 k_2665 d_2666
  have k_2700 : f_2687 q_2244 = some (.inr (3, [.ref a_2270, .ref a_2271, .ref a_2272, .ref a_2273, .ref a_2274, .ref a_2275, .int 0, .int 0, .int 0, .int 0, .int 0])) := ol_at u_2691 k_2667 d_2668
  have k_2701 : f_2687 q_2300 = some (.inr (10, [.ref a_2328, .int 0, .int 0, .int 0])) := ol_at u_2691 k_2669 d_2670
  have k_2702 : f_2687 q_2355 = some (.inr (9, [.ref a_2385, .ref a_2386])) := ol_at u_2691 k_2671 d_2672
  have k_2703 : f_2687 q_2415 = some (.inr (5, [.ref a_2447, .int 0, .int 0, .int 0])) := ol_at u_2691 k_2673 d_2674
  have k_2704 : f_2687 q_2478 = some (.inr (4, [.ref q_2415, .ref a_2512, .ref a_2513, .int 0])) := ol_at u_2691 k_2675 d_2676
  have k_2705 : f_2687 q_2546 = some (.inl (G 1, 4, .inl (fun _ => 0))) := ol_at u_2691 k_2677 d_2678
  have k_2706 : f_2687 q_2596 = some (.inl (G 2, 4900, .inr (.inl (fun _ => 0)))) := ol_at u_2691 k_2679 d_2680
  have k_2707 : f_2687 x = some (.inr (11, [.ref q_2177, .ref q_2201, .ref q_2244, .ref q_2300, .ref q_2355, .ref q_2415, .ref q_2478, .ref q_2546, .ref q_2596, .null])) := ol_at u_2691 k_2681 d_2682
  have o_2708 := ol_rel u_2691 z_2685 o_2684
  refine q_put C h k_2707 flw_X10_71 (Or.inl hini) (v := .ref q_2649) rfl rfl (Nat.le_of_ble_eq_true rfl) dX10_init_109 (fun H locs h => ?_)
  have h : hw D b0 s.heap (hu f_2687 x (.inr (11, [.ref q_2177, .ref q_2201, .ref q_2244, .ref q_2300, .ref q_2355, .ref q_2415, .ref q_2478, .ref q_2546, .ref q_2596, .ref q_2649]))) H locs := h
  generalize ef_2709 : hu f_2687 x (.inr (11, [.ref q_2177, .ref q_2201, .ref q_2244, .ref q_2300, .ref q_2355, .ref q_2415, .ref q_2478, .ref q_2546, .ref q_2596, .ref q_2649])) = f_2709 at h
  have k_2710 : f_2709 q_2177 = some (.inr (8, [.int 0, .ref a_2187, .ref a_2188, .int 0, .int 0, .int 0, .int 0])) := by rw [← ef_2709]; exact hu_at k_2692 (Ne.symm d_2180)
  have k_2711 : f_2709 a_2187 = some (.inl (G 1, 200, .inl (fun _ => 0))) := by rw [← ef_2709]; exact hu_at k_2693 (hne (4, 11) (1, 200) k_2707 k_2693 rfl rfl (by decide))
  have k_2712 : f_2709 a_2188 = some (.inl (G 1, 8, .inl (fun _ => 0))) := by rw [← ef_2709]; exact hu_at k_2694 (hne (4, 11) (1, 8) k_2707 k_2694 rfl rfl (by decide))
  have k_2713 : f_2709 q_2201 = some (.inr (1, [.int 0, .ref a_2217, .ref a_2218, .ref a_2219, .int 0, .int 0])) := by rw [← ef_2709]; exact hu_at k_2695 (Ne.symm d_2210)
  have k_2714 : f_2709 a_2217 = some (.inr (6, [.ref a_2220, .int 0])) := by rw [← ef_2709]; exact hu_at k_2696 (hne (4, 11) (4, 6) k_2707 k_2696 rfl rfl (by decide))
  have k_2715 : f_2709 a_2218 = some (.inr (6, [.ref a_2221, .int 0])) := by rw [← ef_2709]; exact hu_at k_2697 (hne (4, 11) (4, 6) k_2707 k_2697 rfl rfl (by decide))
  have k_2716 : f_2709 a_2220 = some (.inl (G 4, 8, .inr (.inr (.inr (.inr (fun _ => none)))))) := by rw [← ef_2709]; exact hu_at k_2698 (hne (4, 11) (3, 8) k_2707 k_2698 rfl rfl (by decide))
  have k_2717 : f_2709 a_2221 = some (.inl (G 4, 8, .inr (.inr (.inr (.inr (fun _ => none)))))) := by rw [← ef_2709]; exact hu_at k_2699 (hne (4, 11) (3, 8) k_2707 k_2699 rfl rfl (by decide))
  have k_2718 : f_2709 q_2244 = some (.inr (3, [.ref a_2270, .ref a_2271, .ref a_2272, .ref a_2273, .ref a_2274, .ref a_2275, .int 0, .int 0, .int 0, .int 0, .int 0])) := by rw [← ef_2709]; exact hu_at k_2700 (Ne.symm d_2263)
  have k_2719 : f_2709 q_2300 = some (.inr (10, [.ref a_2328, .int 0, .int 0, .int 0])) := by rw [← ef_2709]; exact hu_at k_2701 (Ne.symm d_2321)
  have k_2720 : f_2709 q_2355 = some (.inr (9, [.ref a_2385, .ref a_2386])) := by rw [← ef_2709]; exact hu_at k_2702 (Ne.symm d_2378)
  have k_2721 : f_2709 q_2415 = some (.inr (5, [.ref a_2447, .int 0, .int 0, .int 0])) := by rw [← ef_2709]; exact hu_at k_2703 (Ne.symm d_2440)
  have k_2722 : f_2709 q_2478 = some (.inr (4, [.ref q_2415, .ref a_2512, .ref a_2513, .int 0])) := by rw [← ef_2709]; exact hu_at k_2704 (Ne.symm d_2505)
  have k_2723 : f_2709 q_2546 = some (.inl (G 1, 4, .inl (fun _ => 0))) := by rw [← ef_2709]; exact hu_at k_2705 (Ne.symm d_2575)
  have k_2724 : f_2709 q_2596 = some (.inl (G 2, 4900, .inr (.inl (fun _ => 0)))) := by rw [← ef_2709]; exact hu_at k_2706 (Ne.symm d_2627)
  have k_2725 : f_2709 q_2649 = some (.inr (0, [.ref a_2689, .int 0, .int 0, .int 0])) := by rw [← ef_2709]; exact hu_at k_2690 (Ne.symm d_2682)
  have k_2726 : f_2709 x = some (.inr (11, [.ref q_2177, .ref q_2201, .ref q_2244, .ref q_2300, .ref q_2355, .ref q_2415, .ref q_2478, .ref q_2546, .ref q_2596, .ref q_2649])) := by rw [← ef_2709]; exact hu_self _ _ _
  have o_2727 := ol_up ef_2709 o_2708
  exact q_vret C h hr (⟨(fun i => ([x, q_2177, q_2201, q_2244, q_2300, q_2355, q_2415, q_2478, q_2546, q_2596, q_2649, a_2187, a_2188, a_2217, a_2218, a_2219, a_2220, a_2221, x, x] : List Nat).getD i 0), rfl, ⟨k_2726, k_2710, k_2713, k_2723, k_2711, k_2712, k_2714, k_2715, k_2716, k_2717⟩⟩) (Nat.le_of_ble_eq_true rfl) (Nat.le_of_ble_eq_true rfl) dX10_init_112
set_option maxRecDepth 100000 in
set_option maxHeartbeats 4000000 in
theorem c_X11_init (l : Launch) (D : va_G) (G : Nat → Nat) (b0 : Nat) (f : hM) (x : Nat) (kx : f x = some (.inr (12, [.int 0, .null, .int 0, .int 0, .int 0, .null, .null, .null, .null, .null, .int 0, .int 0, .null, .null, .int 0, .null, .null, .null, .long 0, .null, .null, .null, .null, .null, .null, .null, .null, .int 0, .int 0, .null, .null, .int 0]))) : mV l yX11_init cX11_init 1 { frames := 1, cells := 21, slots := 65101, locals := 12 } D G b0 f [.ref x] (fun f1 => ∃ M : Nat → Nat, M 0 = x ∧ mw G f1 M ∧ (f (M 1) = none ∧ f (M 2) = none ∧ f (M 3) = none ∧ f (M 4) = none ∧ f (M 6) = none) ∧ Ol x f f1) := by
  refine met_of (own := RX11) (by decide) rfl (Nat.le_of_ble_eq_true rfl) ?_
  intro p e s m below meth c ls C hr hini hl h
  have hl : lv_has ls 1 [(0, .ref x)] := hl
  obtain ⟨hx, hb, hml, hown, hts, hE0, hlk⟩ := id C
  have o0 := ol_rf x f
  refine lv_aload_n hx hb dX11_init_0 rfl (lv_at hl 0 rfl) ?_
  refine W.objInit hx hb hown (hts _ w_1432) (hts _ w_130) (hts _ w_131) rfl (hl.1.trans hml.symm) rfl dX11_init_1 (Nat.le_of_ble_eq_true rfl) (Nat.le_of_ble_eq_true rfl) ?_
  show W _ _ _ _ _ _ _ _ _ _ _ _ _ _ _ (F0 m 4 ls [])
  refine lv_aload_n hx hb dX11_init_4 rfl (lv_at hl 0 rfl) ?_
  refine lv_sipush (v := 200) hx hb dX11_init_5 (by decide) ?_
  refine q_newa C h (atype := .byte) 0 rfl rfl rfl w_378 (a0 := (200, .inl (fun _ => 0))) (fun _ => rfl) (by decide) (N' := 200) (by decide) (Nat.le_of_ble_eq_true rfl) (Nat.le_of_ble_eq_true rfl) (Nat.le_of_ble_eq_true rfl) dX11_init_8 (fun q_2728 H nq_2728 h => ?_)
  generalize ef_2729 : hu f q_2728 (.inl (G 0, 200, .inl (fun _ => 0))) = f_2729 at h
  have d_2731 : x ≠ q_2728 := (hne0 nq_2728 kx)
  have k_2730 : f_2729 x = some (.inr (12, [.int 0, .null, .int 0, .int 0, .int 0, .null, .null, .null, .null, .null, .int 0, .int 0, .null, .null, .int 0, .null, .null, .null, .long 0, .null, .null, .null, .null, .null, .null, .null, .null, .int 0, .int 0, .null, .null, .int 0])) := by rw [← ef_2729]; exact hu_at kx d_2731
  have k_2732 : f_2729 q_2728 = some (.inl (G 0, 200, .inl (fun _ => 0))) := by rw [← ef_2729]; exact hu_self _ _ _
  have z_2734 : f q_2728 = none := ol_none o0 nq_2728 kx
  have o_2733 := ol_upn ef_2729 z_2734 o0
  refine q_put C h k_2730 flw_X11_9 (Or.inl hini) (v := .ref q_2728) rfl rfl (Nat.le_of_ble_eq_true rfl) dX11_init_10 (fun H locs h => ?_)
  have h : hw D b0 s.heap (hu f_2729 x (.inr (12, [.int 0, .ref q_2728, .int 0, .int 0, .int 0, .null, .null, .null, .null, .null, .int 0, .int 0, .null, .null, .int 0, .null, .null, .null, .long 0, .null, .null, .null, .null, .null, .null, .null, .null, .int 0, .int 0, .null, .null, .int 0]))) H locs := h
  generalize ef_2735 : hu f_2729 x (.inr (12, [.int 0, .ref q_2728, .int 0, .int 0, .int 0, .null, .null, .null, .null, .null, .int 0, .int 0, .null, .null, .int 0, .null, .null, .null, .long 0, .null, .null, .null, .null, .null, .null, .null, .null, .int 0, .int 0, .null, .null, .int 0])) = f_2735 at h
  have k_2736 : f_2735 q_2728 = some (.inl (G 0, 200, .inl (fun _ => 0))) := by rw [← ef_2735]; exact hu_at k_2732 (Ne.symm d_2731)
  have k_2737 : f_2735 x = some (.inr (12, [.int 0, .ref q_2728, .int 0, .int 0, .int 0, .null, .null, .null, .null, .null, .int 0, .int 0, .null, .null, .int 0, .null, .null, .null, .long 0, .null, .null, .null, .null, .null, .null, .null, .null, .int 0, .int 0, .null, .null, .int 0])) := by rw [← ef_2735]; exact hu_self _ _ _
  have o_2738 := ol_up ef_2735 o_2733
  refine lv_aload_n hx hb dX11_init_13 rfl (lv_at hl 0 rfl) ?_
  refine lv_bipush (v := 10) hx hb dX11_init_14 (by decide) ?_
  refine q_newa C h (atype := .int) 1 rfl rfl rfl w_161 (a0 := (10, .inl (fun _ => 0))) (fun _ => rfl) (by decide) (N' := 10) (by decide) (Nat.le_of_ble_eq_true rfl) (Nat.le_of_ble_eq_true rfl) (Nat.le_of_ble_eq_true rfl) dX11_init_16 (fun q_2739 H nq_2739 h => ?_)
  generalize ef_2740 : hu f_2735 q_2739 (.inl (G 1, 10, .inl (fun _ => 0))) = f_2740 at h
  have d_2742 : q_2728 ≠ q_2739 := (hne0 nq_2739 k_2736)
  have k_2741 : f_2740 q_2728 = some (.inl (G 0, 200, .inl (fun _ => 0))) := by rw [← ef_2740]; exact hu_at k_2736 d_2742
  have d_2744 : x ≠ q_2739 := (hne0 nq_2739 k_2737)
  have k_2743 : f_2740 x = some (.inr (12, [.int 0, .ref q_2728, .int 0, .int 0, .int 0, .null, .null, .null, .null, .null, .int 0, .int 0, .null, .null, .int 0, .null, .null, .null, .long 0, .null, .null, .null, .null, .null, .null, .null, .null, .int 0, .int 0, .null, .null, .int 0])) := by rw [← ef_2740]; exact hu_at k_2737 d_2744
  have k_2745 : f_2740 q_2739 = some (.inl (G 1, 10, .inl (fun _ => 0))) := by rw [← ef_2740]; exact hu_self _ _ _
  have z_2747 : f q_2739 = none := ol_none o_2738 nq_2739 k_2737
  have o_2746 := ol_upn ef_2740 z_2747 o_2738
  refine q_put C h k_2743 flw_X11_13 (Or.inl hini) (v := .ref q_2739) rfl rfl (Nat.le_of_ble_eq_true rfl) dX11_init_18 (fun H locs h => ?_)
  have h : hw D b0 s.heap (hu f_2740 x (.inr (12, [.int 0, .ref q_2728, .int 0, .int 0, .int 0, .ref q_2739, .null, .null, .null, .null, .int 0, .int 0, .null, .null, .int 0, .null, .null, .null, .long 0, .null, .null, .null, .null, .null, .null, .null, .null, .int 0, .int 0, .null, .null, .int 0]))) H locs := h
  generalize ef_2748 : hu f_2740 x (.inr (12, [.int 0, .ref q_2728, .int 0, .int 0, .int 0, .ref q_2739, .null, .null, .null, .null, .int 0, .int 0, .null, .null, .int 0, .null, .null, .null, .long 0, .null, .null, .null, .null, .null, .null, .null, .null, .int 0, .int 0, .null, .null, .int 0])) = f_2748 at h
  have k_2749 : f_2748 q_2728 = some (.inl (G 0, 200, .inl (fun _ => 0))) := by rw [← ef_2748]; exact hu_at k_2741 (Ne.symm d_2731)
  have k_2750 : f_2748 q_2739 = some (.inl (G 1, 10, .inl (fun _ => 0))) := by rw [← ef_2748]; exact hu_at k_2745 (Ne.symm d_2744)
  have k_2751 : f_2748 x = some (.inr (12, [.int 0, .ref q_2728, .int 0, .int 0, .int 0, .ref q_2739, .null, .null, .null, .null, .int 0, .int 0, .null, .null, .int 0, .null, .null, .null, .long 0, .null, .null, .null, .null, .null, .null, .null, .null, .int 0, .int 0, .null, .null, .int 0])) := by rw [← ef_2748]; exact hu_self _ _ _
  have o_2752 := ol_up ef_2748 o_2746
  refine lv_aload_n hx hb dX11_init_21 rfl (lv_at hl 0 rfl) ?_
  refine lv_bipush (v := 81) hx hb dX11_init_22 (by decide) ?_
  refine q_newa C h (atype := .int) 1 rfl rfl rfl w_161 (a0 := (81, .inl (fun _ => 0))) (fun _ => rfl) (by decide) (N' := 81) (by decide) (Nat.le_of_ble_eq_true rfl) (Nat.le_of_ble_eq_true rfl) (Nat.le_of_ble_eq_true rfl) dX11_init_24 (fun q_2753 H nq_2753 h => ?_)
  generalize ef_2754 : hu f_2748 q_2753 (.inl (G 1, 81, .inl (fun _ => 0))) = f_2754 at h
  have d_2756 : q_2728 ≠ q_2753 := (hne0 nq_2753 k_2749)
  have k_2755 : f_2754 q_2728 = some (.inl (G 0, 200, .inl (fun _ => 0))) := by rw [← ef_2754]; exact hu_at k_2749 d_2756
  have d_2758 : q_2739 ≠ q_2753 := (hne0 nq_2753 k_2750)
  have k_2757 : f_2754 q_2739 = some (.inl (G 1, 10, .inl (fun _ => 0))) := by rw [← ef_2754]; exact hu_at k_2750 d_2758
  have d_2760 : x ≠ q_2753 := (hne0 nq_2753 k_2751)
  have k_2759 : f_2754 x = some (.inr (12, [.int 0, .ref q_2728, .int 0, .int 0, .int 0, .ref q_2739, .null, .null, .null, .null, .int 0, .int 0, .null, .null, .int 0, .null, .null, .null, .long 0, .null, .null, .null, .null, .null, .null, .null, .null, .int 0, .int 0, .null, .null, .int 0])) := by rw [← ef_2754]; exact hu_at k_2751 d_2760
  have k_2761 : f_2754 q_2753 = some (.inl (G 1, 81, .inl (fun _ => 0))) := by rw [← ef_2754]; exact hu_self _ _ _
  have z_2763 : f q_2753 = none := ol_none o_2752 nq_2753 k_2751
  have o_2762 := ol_upn ef_2754 z_2763 o_2752
  refine q_put C h k_2759 flw_X11_17 (Or.inl hini) (v := .ref q_2753) rfl rfl (Nat.le_of_ble_eq_true rfl) dX11_init_26 (fun H locs h => ?_)
  have h : hw D b0 s.heap (hu f_2754 x (.inr (12, [.int 0, .ref q_2728, .int 0, .int 0, .int 0, .ref q_2739, .ref q_2753, .null, .null, .null, .int 0, .int 0, .null, .null, .int 0, .null, .null, .null, .long 0, .null, .null, .null, .null, .null, .null, .null, .null, .int 0, .int 0, .null, .null, .int 0]))) H locs := h
  generalize ef_2764 : hu f_2754 x (.inr (12, [.int 0, .ref q_2728, .int 0, .int 0, .int 0, .ref q_2739, .ref q_2753, .null, .null, .null, .int 0, .int 0, .null, .null, .int 0, .null, .null, .null, .long 0, .null, .null, .null, .null, .null, .null, .null, .null, .int 0, .int 0, .null, .null, .int 0])) = f_2764 at h
  have k_2765 : f_2764 q_2728 = some (.inl (G 0, 200, .inl (fun _ => 0))) := by rw [← ef_2764]; exact hu_at k_2755 (Ne.symm d_2731)
  have k_2766 : f_2764 q_2739 = some (.inl (G 1, 10, .inl (fun _ => 0))) := by rw [← ef_2764]; exact hu_at k_2757 (Ne.symm d_2744)
  have k_2767 : f_2764 q_2753 = some (.inl (G 1, 81, .inl (fun _ => 0))) := by rw [← ef_2764]; exact hu_at k_2761 (Ne.symm d_2760)
  have k_2768 : f_2764 x = some (.inr (12, [.int 0, .ref q_2728, .int 0, .int 0, .int 0, .ref q_2739, .ref q_2753, .null, .null, .null, .int 0, .int 0, .null, .null, .int 0, .null, .null, .null, .long 0, .null, .null, .null, .null, .null, .null, .null, .null, .int 0, .int 0, .null, .null, .int 0])) := by rw [← ef_2764]; exact hu_self _ _ _
  have o_2769 := ol_up ef_2764 o_2762
  refine lv_aload_n hx hb dX11_init_29 rfl (lv_at hl 0 rfl) ?_
  refine lv_bipush (v := 81) hx hb dX11_init_30 (by decide) ?_
  refine q_newa C h (atype := .int) 1 rfl rfl rfl w_161 (a0 := (81, .inl (fun _ => 0))) (fun _ => rfl) (by decide) (N' := 81) (by decide) (Nat.le_of_ble_eq_true rfl) (Nat.le_of_ble_eq_true rfl) (Nat.le_of_ble_eq_true rfl) dX11_init_32 (fun q_2770 H nq_2770 h => ?_)
  generalize ef_2771 : hu f_2764 q_2770 (.inl (G 1, 81, .inl (fun _ => 0))) = f_2771 at h
  have d_2773 : q_2728 ≠ q_2770 := (hne0 nq_2770 k_2765)
  have k_2772 : f_2771 q_2728 = some (.inl (G 0, 200, .inl (fun _ => 0))) := by rw [← ef_2771]; exact hu_at k_2765 d_2773
  have d_2775 : q_2739 ≠ q_2770 := (hne0 nq_2770 k_2766)
  have k_2774 : f_2771 q_2739 = some (.inl (G 1, 10, .inl (fun _ => 0))) := by rw [← ef_2771]; exact hu_at k_2766 d_2775
  have d_2777 : q_2753 ≠ q_2770 := (hne0 nq_2770 k_2767)
  have k_2776 : f_2771 q_2753 = some (.inl (G 1, 81, .inl (fun _ => 0))) := by rw [← ef_2771]; exact hu_at k_2767 d_2777
  have d_2779 : x ≠ q_2770 := (hne0 nq_2770 k_2768)
  have k_2778 : f_2771 x = some (.inr (12, [.int 0, .ref q_2728, .int 0, .int 0, .int 0, .ref q_2739, .ref q_2753, .null, .null, .null, .int 0, .int 0, .null, .null, .int 0, .null, .null, .null, .long 0, .null, .null, .null, .null, .null, .null, .null, .null, .int 0, .int 0, .null, .null, .int 0])) := by rw [← ef_2771]; exact hu_at k_2768 d_2779
  have k_2780 : f_2771 q_2770 = some (.inl (G 1, 81, .inl (fun _ => 0))) := by rw [← ef_2771]; exact hu_self _ _ _
  have z_2782 : f q_2770 = none := ol_none o_2769 nq_2770 k_2768
  have o_2781 := ol_upn ef_2771 z_2782 o_2769
  refine q_put C h k_2778 flw_X11_20 (Or.inl hini) (v := .ref q_2770) rfl rfl (Nat.le_of_ble_eq_true rfl) dX11_init_34 (fun H locs h => ?_)
  have h : hw D b0 s.heap (hu f_2771 x (.inr (12, [.int 0, .ref q_2728, .int 0, .int 0, .int 0, .ref q_2739, .ref q_2753, .ref q_2770, .null, .null, .int 0, .int 0, .null, .null, .int 0, .null, .null, .null, .long 0, .null, .null, .null, .null, .null, .null, .null, .null, .int 0, .int 0, .null, .null, .int 0]))) H locs := h
  generalize ef_2783 : hu f_2771 x (.inr (12, [.int 0, .ref q_2728, .int 0, .int 0, .int 0, .ref q_2739, .ref q_2753, .ref q_2770, .null, .null, .int 0, .int 0, .null, .null, .int 0, .null, .null, .null, .long 0, .null, .null, .null, .null, .null, .null, .null, .null, .int 0, .int 0, .null, .null, .int 0])) = f_2783 at h
  have k_2784 : f_2783 q_2728 = some (.inl (G 0, 200, .inl (fun _ => 0))) := by rw [← ef_2783]; exact hu_at k_2772 (Ne.symm d_2731)
  have k_2785 : f_2783 q_2739 = some (.inl (G 1, 10, .inl (fun _ => 0))) := by rw [← ef_2783]; exact hu_at k_2774 (Ne.symm d_2744)
  have k_2786 : f_2783 q_2753 = some (.inl (G 1, 81, .inl (fun _ => 0))) := by rw [← ef_2783]; exact hu_at k_2776 (Ne.symm d_2760)
  have k_2787 : f_2783 q_2770 = some (.inl (G 1, 81, .inl (fun _ => 0))) := by rw [← ef_2783]; exact hu_at k_2780 (Ne.symm d_2779)
  have k_2788 : f_2783 x = some (.inr (12, [.int 0, .ref q_2728, .int 0, .int 0, .int 0, .ref q_2739, .ref q_2753, .ref q_2770, .null, .null, .int 0, .int 0, .null, .null, .int 0, .null, .null, .null, .long 0, .null, .null, .null, .null, .null, .null, .null, .null, .int 0, .int 0, .null, .null, .int 0])) := by rw [← ef_2783]; exact hu_self _ _ _
  have o_2789 := ol_up ef_2783 o_2781
  refine lv_aload_n hx hb dX11_init_37 rfl (lv_at hl 0 rfl) ?_
  refine lv_sipush (v := 972) hx hb dX11_init_38 (by decide) ?_
  refine q_newa C h (atype := .int) 1 rfl rfl rfl w_161 (a0 := (972, .inl (fun _ => 0))) (fun _ => rfl) (by decide) (N' := 972) (by decide) (Nat.le_of_ble_eq_true rfl) (Nat.le_of_ble_eq_true rfl) (Nat.le_of_ble_eq_true rfl) dX11_init_41 (fun q_2790 H nq_2790 h => ?_)
  generalize ef_2791 : hu f_2783 q_2790 (.inl (G 1, 972, .inl (fun _ => 0))) = f_2791 at h
  have d_2793 : q_2728 ≠ q_2790 := (hne0 nq_2790 k_2784)
  have k_2792 : f_2791 q_2728 = some (.inl (G 0, 200, .inl (fun _ => 0))) := by rw [← ef_2791]; exact hu_at k_2784 d_2793
  have d_2795 : q_2739 ≠ q_2790 := (hne0 nq_2790 k_2785)
  have k_2794 : f_2791 q_2739 = some (.inl (G 1, 10, .inl (fun _ => 0))) := by rw [← ef_2791]; exact hu_at k_2785 d_2795
  have d_2797 : q_2753 ≠ q_2790 := (hne0 nq_2790 k_2786)
  have k_2796 : f_2791 q_2753 = some (.inl (G 1, 81, .inl (fun _ => 0))) := by rw [← ef_2791]; exact hu_at k_2786 d_2797
  have d_2799 : q_2770 ≠ q_2790 := (hne0 nq_2790 k_2787)
  have k_2798 : f_2791 q_2770 = some (.inl (G 1, 81, .inl (fun _ => 0))) := by rw [← ef_2791]; exact hu_at k_2787 d_2799
  have d_2801 : x ≠ q_2790 := (hne0 nq_2790 k_2788)
  have k_2800 : f_2791 x = some (.inr (12, [.int 0, .ref q_2728, .int 0, .int 0, .int 0, .ref q_2739, .ref q_2753, .ref q_2770, .null, .null, .int 0, .int 0, .null, .null, .int 0, .null, .null, .null, .long 0, .null, .null, .null, .null, .null, .null, .null, .null, .int 0, .int 0, .null, .null, .int 0])) := by rw [← ef_2791]; exact hu_at k_2788 d_2801
  have k_2802 : f_2791 q_2790 = some (.inl (G 1, 972, .inl (fun _ => 0))) := by rw [← ef_2791]; exact hu_self _ _ _
  have z_2804 : f q_2790 = none := ol_none o_2789 nq_2790 k_2788
  have o_2803 := ol_upn ef_2791 z_2804 o_2789
  refine q_put C h k_2800 flw_X11_23 (Or.inl hini) (v := .ref q_2790) rfl rfl (Nat.le_of_ble_eq_true rfl) dX11_init_43 (fun H locs h => ?_)
  have h : hw D b0 s.heap (hu f_2791 x (.inr (12, [.int 0, .ref q_2728, .int 0, .int 0, .int 0, .ref q_2739, .ref q_2753, .ref q_2770, .ref q_2790, .null, .int 0, .int 0, .null, .null, .int 0, .null, .null, .null, .long 0, .null, .null, .null, .null, .null, .null, .null, .null, .int 0, .int 0, .null, .null, .int 0]))) H locs := h
  generalize ef_2805 : hu f_2791 x (.inr (12, [.int 0, .ref q_2728, .int 0, .int 0, .int 0, .ref q_2739, .ref q_2753, .ref q_2770, .ref q_2790, .null, .int 0, .int 0, .null, .null, .int 0, .null, .null, .null, .long 0, .null, .null, .null, .null, .null, .null, .null, .null, .int 0, .int 0, .null, .null, .int 0])) = f_2805 at h
  have k_2806 : f_2805 q_2728 = some (.inl (G 0, 200, .inl (fun _ => 0))) := by rw [← ef_2805]; exact hu_at k_2792 (Ne.symm d_2731)
  have k_2807 : f_2805 q_2739 = some (.inl (G 1, 10, .inl (fun _ => 0))) := by rw [← ef_2805]; exact hu_at k_2794 (Ne.symm d_2744)
  have k_2808 : f_2805 q_2753 = some (.inl (G 1, 81, .inl (fun _ => 0))) := by rw [← ef_2805]; exact hu_at k_2796 (Ne.symm d_2760)
  have k_2809 : f_2805 q_2770 = some (.inl (G 1, 81, .inl (fun _ => 0))) := by rw [← ef_2805]; exact hu_at k_2798 (Ne.symm d_2779)
  have k_2810 : f_2805 q_2790 = some (.inl (G 1, 972, .inl (fun _ => 0))) := by rw [← ef_2805]; exact hu_at k_2802 (Ne.symm d_2801)
  have k_2811 : f_2805 x = some (.inr (12, [.int 0, .ref q_2728, .int 0, .int 0, .int 0, .ref q_2739, .ref q_2753, .ref q_2770, .ref q_2790, .null, .int 0, .int 0, .null, .null, .int 0, .null, .null, .null, .long 0, .null, .null, .null, .null, .null, .null, .null, .null, .int 0, .int 0, .null, .null, .int 0])) := by rw [← ef_2805]; exact hu_self _ _ _
  have o_2812 := ol_up ef_2805 o_2803
  refine lv_aload_n hx hb dX11_init_46 rfl (lv_at hl 0 rfl) ?_
  refine lv_iconst (v := 4) hx hb dX11_init_47 (by decide) ?_
  refine q_newa C h (atype := .int) 1 rfl rfl rfl w_161 (a0 := (4, .inl (fun _ => 0))) (fun _ => rfl) (by decide) (N' := 4) (by decide) (Nat.le_of_ble_eq_true rfl) (Nat.le_of_ble_eq_true rfl) (Nat.le_of_ble_eq_true rfl) dX11_init_48 (fun q_2813 H nq_2813 h => ?_)
  generalize ef_2814 : hu f_2805 q_2813 (.inl (G 1, 4, .inl (fun _ => 0))) = f_2814 at h
  have d_2816 : q_2728 ≠ q_2813 := (hne0 nq_2813 k_2806)
  have k_2815 : f_2814 q_2728 = some (.inl (G 0, 200, .inl (fun _ => 0))) := by rw [← ef_2814]; exact hu_at k_2806 d_2816
  have d_2818 : q_2739 ≠ q_2813 := (hne0 nq_2813 k_2807)
  have k_2817 : f_2814 q_2739 = some (.inl (G 1, 10, .inl (fun _ => 0))) := by rw [← ef_2814]; exact hu_at k_2807 d_2818
  have d_2820 : q_2753 ≠ q_2813 := (hne0 nq_2813 k_2808)
  have k_2819 : f_2814 q_2753 = some (.inl (G 1, 81, .inl (fun _ => 0))) := by rw [← ef_2814]; exact hu_at k_2808 d_2820
  have d_2822 : q_2770 ≠ q_2813 := (hne0 nq_2813 k_2809)
  have k_2821 : f_2814 q_2770 = some (.inl (G 1, 81, .inl (fun _ => 0))) := by rw [← ef_2814]; exact hu_at k_2809 d_2822
  have d_2824 : q_2790 ≠ q_2813 := (hne0 nq_2813 k_2810)
  have k_2823 : f_2814 q_2790 = some (.inl (G 1, 972, .inl (fun _ => 0))) := by rw [← ef_2814]; exact hu_at k_2810 d_2824
  have d_2826 : x ≠ q_2813 := (hne0 nq_2813 k_2811)
  have k_2825 : f_2814 x = some (.inr (12, [.int 0, .ref q_2728, .int 0, .int 0, .int 0, .ref q_2739, .ref q_2753, .ref q_2770, .ref q_2790, .null, .int 0, .int 0, .null, .null, .int 0, .null, .null, .null, .long 0, .null, .null, .null, .null, .null, .null, .null, .null, .int 0, .int 0, .null, .null, .int 0])) := by rw [← ef_2814]; exact hu_at k_2811 d_2826
  have k_2827 : f_2814 q_2813 = some (.inl (G 1, 4, .inl (fun _ => 0))) := by rw [← ef_2814]; exact hu_self _ _ _
  have z_2829 : f q_2813 = none := ol_none o_2812 nq_2813 k_2811
  have o_2828 := ol_upn ef_2814 z_2829 o_2812
  refine q_put C h k_2825 flw_X11_26 (Or.inl hini) (v := .ref q_2813) rfl rfl (Nat.le_of_ble_eq_true rfl) dX11_init_50 (fun H locs h => ?_)
  have h : hw D b0 s.heap (hu f_2814 x (.inr (12, [.int 0, .ref q_2728, .int 0, .int 0, .int 0, .ref q_2739, .ref q_2753, .ref q_2770, .ref q_2790, .ref q_2813, .int 0, .int 0, .null, .null, .int 0, .null, .null, .null, .long 0, .null, .null, .null, .null, .null, .null, .null, .null, .int 0, .int 0, .null, .null, .int 0]))) H locs := h
  generalize ef_2830 : hu f_2814 x (.inr (12, [.int 0, .ref q_2728, .int 0, .int 0, .int 0, .ref q_2739, .ref q_2753, .ref q_2770, .ref q_2790, .ref q_2813, .int 0, .int 0, .null, .null, .int 0, .null, .null, .null, .long 0, .null, .null, .null, .null, .null, .null, .null, .null, .int 0, .int 0, .null, .null, .int 0])) = f_2830 at h
  have k_2831 : f_2830 q_2728 = some (.inl (G 0, 200, .inl (fun _ => 0))) := by rw [← ef_2830]; exact hu_at k_2815 (Ne.symm d_2731)
  have k_2832 : f_2830 q_2739 = some (.inl (G 1, 10, .inl (fun _ => 0))) := by rw [← ef_2830]; exact hu_at k_2817 (Ne.symm d_2744)
  have k_2833 : f_2830 q_2753 = some (.inl (G 1, 81, .inl (fun _ => 0))) := by rw [← ef_2830]; exact hu_at k_2819 (Ne.symm d_2760)
  have k_2834 : f_2830 q_2770 = some (.inl (G 1, 81, .inl (fun _ => 0))) := by rw [← ef_2830]; exact hu_at k_2821 (Ne.symm d_2779)
  have k_2835 : f_2830 q_2790 = some (.inl (G 1, 972, .inl (fun _ => 0))) := by rw [← ef_2830]; exact hu_at k_2823 (Ne.symm d_2801)
  have k_2836 : f_2830 q_2813 = some (.inl (G 1, 4, .inl (fun _ => 0))) := by rw [← ef_2830]; exact hu_at k_2827 (Ne.symm d_2826)
  have k_2837 : f_2830 x = some (.inr (12, [.int 0, .ref q_2728, .int 0, .int 0, .int 0, .ref q_2739, .ref q_2753, .ref q_2770, .ref q_2790, .ref q_2813, .int 0, .int 0, .null, .null, .int 0, .null, .null, .null, .long 0, .null, .null, .null, .null, .null, .null, .null, .null, .int 0, .int 0, .null, .null, .int 0])) := by rw [← ef_2830]; exact hu_self _ _ _
  have o_2838 := ol_up ef_2830 o_2828
  refine lv_aload_n hx hb dX11_init_53 rfl (lv_at hl 0 rfl) ?_
  refine lv_sipush (v := 19600) hx hb dX11_init_54 (by decide) ?_
  refine q_newa C h (atype := .long) 2 rfl rfl rfl w_235 (a0 := (19600, .inr (.inl (fun _ => 0)))) (fun _ => rfl) (by decide) (N' := 19600) (by decide) (Nat.le_of_ble_eq_true rfl) (Nat.le_of_ble_eq_true rfl) (Nat.le_of_ble_eq_true rfl) dX11_init_57 (fun q_2839 H nq_2839 h => ?_)
  generalize ef_2840 : hu f_2830 q_2839 (.inl (G 2, 19600, .inr (.inl (fun _ => 0)))) = f_2840 at h
  have d_2842 : q_2728 ≠ q_2839 := (hne0 nq_2839 k_2831)
  have k_2841 : f_2840 q_2728 = some (.inl (G 0, 200, .inl (fun _ => 0))) := by rw [← ef_2840]; exact hu_at k_2831 d_2842
  have d_2844 : q_2739 ≠ q_2839 := (hne0 nq_2839 k_2832)
  have k_2843 : f_2840 q_2739 = some (.inl (G 1, 10, .inl (fun _ => 0))) := by rw [← ef_2840]; exact hu_at k_2832 d_2844
  have d_2846 : q_2753 ≠ q_2839 := (hne0 nq_2839 k_2833)
  have k_2845 : f_2840 q_2753 = some (.inl (G 1, 81, .inl (fun _ => 0))) := by rw [← ef_2840]; exact hu_at k_2833 d_2846
  have d_2848 : q_2770 ≠ q_2839 := (hne0 nq_2839 k_2834)
  have k_2847 : f_2840 q_2770 = some (.inl (G 1, 81, .inl (fun _ => 0))) := by rw [← ef_2840]; exact hu_at k_2834 d_2848
  have d_2850 : q_2790 ≠ q_2839 := (hne0 nq_2839 k_2835)
  have k_2849 : f_2840 q_2790 = some (.inl (G 1, 972, .inl (fun _ => 0))) := by rw [← ef_2840]; exact hu_at k_2835 d_2850
  have d_2852 : q_2813 ≠ q_2839 := (hne0 nq_2839 k_2836)
  have k_2851 : f_2840 q_2813 = some (.inl (G 1, 4, .inl (fun _ => 0))) := by rw [← ef_2840]; exact hu_at k_2836 d_2852
  have d_2854 : x ≠ q_2839 := (hne0 nq_2839 k_2837)
  have k_2853 : f_2840 x = some (.inr (12, [.int 0, .ref q_2728, .int 0, .int 0, .int 0, .ref q_2739, .ref q_2753, .ref q_2770, .ref q_2790, .ref q_2813, .int 0, .int 0, .null, .null, .int 0, .null, .null, .null, .long 0, .null, .null, .null, .null, .null, .null, .null, .null, .int 0, .int 0, .null, .null, .int 0])) := by rw [← ef_2840]; exact hu_at k_2837 d_2854
  have k_2855 : f_2840 q_2839 = some (.inl (G 2, 19600, .inr (.inl (fun _ => 0)))) := by rw [← ef_2840]; exact hu_self _ _ _
  have z_2857 : f q_2839 = none := ol_none o_2838 nq_2839 k_2837
  have o_2856 := ol_upn ef_2840 z_2857 o_2838
  refine q_put C h k_2853 flw_X11_29 (Or.inr ⟨_, _, _, rfl, rfl⟩) (v := .ref q_2839) rfl rfl (Nat.le_of_ble_eq_true rfl) dX11_init_59 (fun H locs h => ?_)
  have h : hw D b0 s.heap (hu f_2840 x (.inr (12, [.int 0, .ref q_2728, .int 0, .int 0, .int 0, .ref q_2739, .ref q_2753, .ref q_2770, .ref q_2790, .ref q_2813, .int 0, .int 0, .ref q_2839, .null, .int 0, .null, .null, .null, .long 0, .null, .null, .null, .null, .null, .null, .null, .null, .int 0, .int 0, .null, .null, .int 0]))) H locs := h
  generalize ef_2858 : hu f_2840 x (.inr (12, [.int 0, .ref q_2728, .int 0, .int 0, .int 0, .ref q_2739, .ref q_2753, .ref q_2770, .ref q_2790, .ref q_2813, .int 0, .int 0, .ref q_2839, .null, .int 0, .null, .null, .null, .long 0, .null, .null, .null, .null, .null, .null, .null, .null, .int 0, .int 0, .null, .null, .int 0])) = f_2858 at h
  have k_2859 : f_2858 q_2728 = some (.inl (G 0, 200, .inl (fun _ => 0))) := by rw [← ef_2858]; exact hu_at k_2841 (Ne.symm d_2731)
  have k_2860 : f_2858 q_2739 = some (.inl (G 1, 10, .inl (fun _ => 0))) := by rw [← ef_2858]; exact hu_at k_2843 (Ne.symm d_2744)
  have k_2861 : f_2858 q_2753 = some (.inl (G 1, 81, .inl (fun _ => 0))) := by rw [← ef_2858]; exact hu_at k_2845 (Ne.symm d_2760)
  have k_2862 : f_2858 q_2770 = some (.inl (G 1, 81, .inl (fun _ => 0))) := by rw [← ef_2858]; exact hu_at k_2847 (Ne.symm d_2779)
  have k_2863 : f_2858 q_2790 = some (.inl (G 1, 972, .inl (fun _ => 0))) := by rw [← ef_2858]; exact hu_at k_2849 (Ne.symm d_2801)
  have k_2864 : f_2858 q_2813 = some (.inl (G 1, 4, .inl (fun _ => 0))) := by rw [← ef_2858]; exact hu_at k_2851 (Ne.symm d_2826)
  have k_2865 : f_2858 q_2839 = some (.inl (G 2, 19600, .inr (.inl (fun _ => 0)))) := by rw [← ef_2858]; exact hu_at k_2855 (Ne.symm d_2854)
  have k_2866 : f_2858 x = some (.inr (12, [.int 0, .ref q_2728, .int 0, .int 0, .int 0, .ref q_2739, .ref q_2753, .ref q_2770, .ref q_2790, .ref q_2813, .int 0, .int 0, .ref q_2839, .null, .int 0, .null, .null, .null, .long 0, .null, .null, .null, .null, .null, .null, .null, .null, .int 0, .int 0, .null, .null, .int 0])) := by rw [← ef_2858]; exact hu_self _ _ _
  have o_2867 := ol_up ef_2858 o_2856
  refine lv_aload_n hx hb dX11_init_62 rfl (lv_at hl 0 rfl) ?_
  refine lv_sipush (v := 19600) hx hb dX11_init_63 (by decide) ?_
  refine q_newa C h (atype := .long) 2 rfl rfl rfl w_235 (a0 := (19600, .inr (.inl (fun _ => 0)))) (fun _ => rfl) (by decide) (N' := 19600) (by decide) (Nat.le_of_ble_eq_true rfl) (Nat.le_of_ble_eq_true rfl) (Nat.le_of_ble_eq_true rfl) dX11_init_66 (fun q_2868 H nq_2868 h => ?_)
  generalize ef_2869 : hu f_2858 q_2868 (.inl (G 2, 19600, .inr (.inl (fun _ => 0)))) = f_2869 at h
  have d_2871 : q_2728 ≠ q_2868 := (hne0 nq_2868 k_2859)
  have k_2870 : f_2869 q_2728 = some (.inl (G 0, 200, .inl (fun _ => 0))) := by rw [← ef_2869]; exact hu_at k_2859 d_2871
  have d_2873 : q_2739 ≠ q_2868 := (hne0 nq_2868 k_2860)
  have k_2872 : f_2869 q_2739 = some (.inl (G 1, 10, .inl (fun _ => 0))) := by rw [← ef_2869]; exact hu_at k_2860 d_2873
  have d_2875 : q_2753 ≠ q_2868 := (hne0 nq_2868 k_2861)
  have k_2874 : f_2869 q_2753 = some (.inl (G 1, 81, .inl (fun _ => 0))) := by rw [← ef_2869]; exact hu_at k_2861 d_2875
  have d_2877 : q_2770 ≠ q_2868 := (hne0 nq_2868 k_2862)
  have k_2876 : f_2869 q_2770 = some (.inl (G 1, 81, .inl (fun _ => 0))) := by rw [← ef_2869]; exact hu_at k_2862 d_2877
  have d_2879 : q_2790 ≠ q_2868 := (hne0 nq_2868 k_2863)
  have k_2878 : f_2869 q_2790 = some (.inl (G 1, 972, .inl (fun _ => 0))) := by rw [← ef_2869]; exact hu_at k_2863 d_2879
  have d_2881 : q_2813 ≠ q_2868 := (hne0 nq_2868 k_2864)
  have k_2880 : f_2869 q_2813 = some (.inl (G 1, 4, .inl (fun _ => 0))) := by rw [← ef_2869]; exact hu_at k_2864 d_2881
  have d_2883 : q_2839 ≠ q_2868 := (hne0 nq_2868 k_2865)
  have k_2882 : f_2869 q_2839 = some (.inl (G 2, 19600, .inr (.inl (fun _ => 0)))) := by rw [← ef_2869]; exact hu_at k_2865 d_2883
  have d_2885 : x ≠ q_2868 := (hne0 nq_2868 k_2866)
  have k_2884 : f_2869 x = some (.inr (12, [.int 0, .ref q_2728, .int 0, .int 0, .int 0, .ref q_2739, .ref q_2753, .ref q_2770, .ref q_2790, .ref q_2813, .int 0, .int 0, .ref q_2839, .null, .int 0, .null, .null, .null, .long 0, .null, .null, .null, .null, .null, .null, .null, .null, .int 0, .int 0, .null, .null, .int 0])) := by rw [← ef_2869]; exact hu_at k_2866 d_2885
  have k_2886 : f_2869 q_2868 = some (.inl (G 2, 19600, .inr (.inl (fun _ => 0)))) := by rw [← ef_2869]; exact hu_self _ _ _
  have z_2888 : f q_2868 = none := ol_none o_2867 nq_2868 k_2866
  have o_2887 := ol_upn ef_2869 z_2888 o_2867
  refine q_put C h k_2884 flw_X11_33 (Or.inr ⟨_, _, _, rfl, rfl⟩) (v := .ref q_2868) rfl rfl (Nat.le_of_ble_eq_true rfl) dX11_init_68 (fun H locs h => ?_)
  have h : hw D b0 s.heap (hu f_2869 x (.inr (12, [.int 0, .ref q_2728, .int 0, .int 0, .int 0, .ref q_2739, .ref q_2753, .ref q_2770, .ref q_2790, .ref q_2813, .int 0, .int 0, .ref q_2839, .ref q_2868, .int 0, .null, .null, .null, .long 0, .null, .null, .null, .null, .null, .null, .null, .null, .int 0, .int 0, .null, .null, .int 0]))) H locs := h
  generalize ef_2889 : hu f_2869 x (.inr (12, [.int 0, .ref q_2728, .int 0, .int 0, .int 0, .ref q_2739, .ref q_2753, .ref q_2770, .ref q_2790, .ref q_2813, .int 0, .int 0, .ref q_2839, .ref q_2868, .int 0, .null, .null, .null, .long 0, .null, .null, .null, .null, .null, .null, .null, .null, .int 0, .int 0, .null, .null, .int 0])) = f_2889 at h
  have k_2890 : f_2889 q_2728 = some (.inl (G 0, 200, .inl (fun _ => 0))) := by rw [← ef_2889]; exact hu_at k_2870 (Ne.symm d_2731)
  have k_2891 : f_2889 q_2739 = some (.inl (G 1, 10, .inl (fun _ => 0))) := by rw [← ef_2889]; exact hu_at k_2872 (Ne.symm d_2744)
  have k_2892 : f_2889 q_2753 = some (.inl (G 1, 81, .inl (fun _ => 0))) := by rw [← ef_2889]; exact hu_at k_2874 (Ne.symm d_2760)
  have k_2893 : f_2889 q_2770 = some (.inl (G 1, 81, .inl (fun _ => 0))) := by rw [← ef_2889]; exact hu_at k_2876 (Ne.symm d_2779)
  have k_2894 : f_2889 q_2790 = some (.inl (G 1, 972, .inl (fun _ => 0))) := by rw [← ef_2889]; exact hu_at k_2878 (Ne.symm d_2801)
  have k_2895 : f_2889 q_2813 = some (.inl (G 1, 4, .inl (fun _ => 0))) := by rw [← ef_2889]; exact hu_at k_2880 (Ne.symm d_2826)
  have k_2896 : f_2889 q_2839 = some (.inl (G 2, 19600, .inr (.inl (fun _ => 0)))) := by rw [← ef_2889]; exact hu_at k_2882 (Ne.symm d_2854)
  have k_2897 : f_2889 q_2868 = some (.inl (G 2, 19600, .inr (.inl (fun _ => 0)))) := by rw [← ef_2889]; exact hu_at k_2886 (Ne.symm d_2885)
  have k_2898 : f_2889 x = some (.inr (12, [.int 0, .ref q_2728, .int 0, .int 0, .int 0, .ref q_2739, .ref q_2753, .ref q_2770, .ref q_2790, .ref q_2813, .int 0, .int 0, .ref q_2839, .ref q_2868, .int 0, .null, .null, .null, .long 0, .null, .null, .null, .null, .null, .null, .null, .null, .int 0, .int 0, .null, .null, .int 0])) := by rw [← ef_2889]; exact hu_self _ _ _
  have o_2899 := ol_up ef_2889 o_2887
  refine lv_aload_n hx hb dX11_init_71 rfl (lv_at hl 0 rfl) ?_
  refine lv_bipush (v := 61) hx hb dX11_init_72 (by decide) ?_
  refine q_newa C h (atype := .int) 1 rfl rfl rfl w_161 (a0 := (61, .inl (fun _ => 0))) (fun _ => rfl) (by decide) (N' := 61) (by decide) (Nat.le_of_ble_eq_true rfl) (Nat.le_of_ble_eq_true rfl) (Nat.le_of_ble_eq_true rfl) dX11_init_74 (fun q_2900 H nq_2900 h => ?_)
  generalize ef_2901 : hu f_2889 q_2900 (.inl (G 1, 61, .inl (fun _ => 0))) = f_2901 at h
  have d_2903 : q_2728 ≠ q_2900 := (hne0 nq_2900 k_2890)
  have k_2902 : f_2901 q_2728 = some (.inl (G 0, 200, .inl (fun _ => 0))) := by rw [← ef_2901]; exact hu_at k_2890 d_2903
  have d_2905 : q_2739 ≠ q_2900 := (hne0 nq_2900 k_2891)
  have k_2904 : f_2901 q_2739 = some (.inl (G 1, 10, .inl (fun _ => 0))) := by rw [← ef_2901]; exact hu_at k_2891 d_2905
  have d_2907 : q_2753 ≠ q_2900 := (hne0 nq_2900 k_2892)
  have k_2906 : f_2901 q_2753 = some (.inl (G 1, 81, .inl (fun _ => 0))) := by rw [← ef_2901]; exact hu_at k_2892 d_2907
  have d_2909 : q_2770 ≠ q_2900 := (hne0 nq_2900 k_2893)
  have k_2908 : f_2901 q_2770 = some (.inl (G 1, 81, .inl (fun _ => 0))) := by rw [← ef_2901]; exact hu_at k_2893 d_2909
  have d_2911 : q_2790 ≠ q_2900 := (hne0 nq_2900 k_2894)
  have k_2910 : f_2901 q_2790 = some (.inl (G 1, 972, .inl (fun _ => 0))) := by rw [← ef_2901]; exact hu_at k_2894 d_2911
  have d_2913 : q_2813 ≠ q_2900 := (hne0 nq_2900 k_2895)
  have k_2912 : f_2901 q_2813 = some (.inl (G 1, 4, .inl (fun _ => 0))) := by rw [← ef_2901]; exact hu_at k_2895 d_2913
  have d_2915 : q_2839 ≠ q_2900 := (hne0 nq_2900 k_2896)
  have k_2914 : f_2901 q_2839 = some (.inl (G 2, 19600, .inr (.inl (fun _ => 0)))) := by rw [← ef_2901]; exact hu_at k_2896 d_2915
  have d_2917 : q_2868 ≠ q_2900 := (hne0 nq_2900 k_2897)
  have k_2916 : f_2901 q_2868 = some (.inl (G 2, 19600, .inr (.inl (fun _ => 0)))) := by rw [← ef_2901]; exact hu_at k_2897 d_2917
  have d_2919 : x ≠ q_2900 := (hne0 nq_2900 k_2898)
  have k_2918 : f_2901 x = some (.inr (12, [.int 0, .ref q_2728, .int 0, .int 0, .int 0, .ref q_2739, .ref q_2753, .ref q_2770, .ref q_2790, .ref q_2813, .int 0, .int 0, .ref q_2839, .ref q_2868, .int 0, .null, .null, .null, .long 0, .null, .null, .null, .null, .null, .null, .null, .null, .int 0, .int 0, .null, .null, .int 0])) := by rw [← ef_2901]; exact hu_at k_2898 d_2919
  have k_2920 : f_2901 q_2900 = some (.inl (G 1, 61, .inl (fun _ => 0))) := by rw [← ef_2901]; exact hu_self _ _ _
  have z_2922 : f q_2900 = none := ol_none o_2899 nq_2900 k_2898
  have o_2921 := ol_upn ef_2901 z_2922 o_2899
  refine q_put C h k_2918 flw_X11_36 (Or.inl hini) (v := .ref q_2900) rfl rfl (Nat.le_of_ble_eq_true rfl) dX11_init_76 (fun H locs h => ?_)
  have h : hw D b0 s.heap (hu f_2901 x (.inr (12, [.int 0, .ref q_2728, .int 0, .int 0, .int 0, .ref q_2739, .ref q_2753, .ref q_2770, .ref q_2790, .ref q_2813, .int 0, .int 0, .ref q_2839, .ref q_2868, .int 0, .ref q_2900, .null, .null, .long 0, .null, .null, .null, .null, .null, .null, .null, .null, .int 0, .int 0, .null, .null, .int 0]))) H locs := h
  generalize ef_2923 : hu f_2901 x (.inr (12, [.int 0, .ref q_2728, .int 0, .int 0, .int 0, .ref q_2739, .ref q_2753, .ref q_2770, .ref q_2790, .ref q_2813, .int 0, .int 0, .ref q_2839, .ref q_2868, .int 0, .ref q_2900, .null, .null, .long 0, .null, .null, .null, .null, .null, .null, .null, .null, .int 0, .int 0, .null, .null, .int 0])) = f_2923 at h
  have k_2924 : f_2923 q_2728 = some (.inl (G 0, 200, .inl (fun _ => 0))) := by rw [← ef_2923]; exact hu_at k_2902 (Ne.symm d_2731)
  have k_2925 : f_2923 q_2739 = some (.inl (G 1, 10, .inl (fun _ => 0))) := by rw [← ef_2923]; exact hu_at k_2904 (Ne.symm d_2744)
  have k_2926 : f_2923 q_2753 = some (.inl (G 1, 81, .inl (fun _ => 0))) := by rw [← ef_2923]; exact hu_at k_2906 (Ne.symm d_2760)
  have k_2927 : f_2923 q_2770 = some (.inl (G 1, 81, .inl (fun _ => 0))) := by rw [← ef_2923]; exact hu_at k_2908 (Ne.symm d_2779)
  have k_2928 : f_2923 q_2790 = some (.inl (G 1, 972, .inl (fun _ => 0))) := by rw [← ef_2923]; exact hu_at k_2910 (Ne.symm d_2801)
  have k_2929 : f_2923 q_2813 = some (.inl (G 1, 4, .inl (fun _ => 0))) := by rw [← ef_2923]; exact hu_at k_2912 (Ne.symm d_2826)
  have k_2930 : f_2923 q_2839 = some (.inl (G 2, 19600, .inr (.inl (fun _ => 0)))) := by rw [← ef_2923]; exact hu_at k_2914 (Ne.symm d_2854)
  have k_2931 : f_2923 q_2868 = some (.inl (G 2, 19600, .inr (.inl (fun _ => 0)))) := by rw [← ef_2923]; exact hu_at k_2916 (Ne.symm d_2885)
  have k_2932 : f_2923 q_2900 = some (.inl (G 1, 61, .inl (fun _ => 0))) := by rw [← ef_2923]; exact hu_at k_2920 (Ne.symm d_2919)
  have k_2933 : f_2923 x = some (.inr (12, [.int 0, .ref q_2728, .int 0, .int 0, .int 0, .ref q_2739, .ref q_2753, .ref q_2770, .ref q_2790, .ref q_2813, .int 0, .int 0, .ref q_2839, .ref q_2868, .int 0, .ref q_2900, .null, .null, .long 0, .null, .null, .null, .null, .null, .null, .null, .null, .int 0, .int 0, .null, .null, .int 0])) := by rw [← ef_2923]; exact hu_self _ _ _
  have o_2934 := ol_up ef_2923 o_2921
  refine lv_aload_n hx hb dX11_init_79 rfl (lv_at hl 0 rfl) ?_
  refine lv_bipush (v := 61) hx hb dX11_init_80 (by decide) ?_
  refine q_newa C h (atype := .int) 1 rfl rfl rfl w_161 (a0 := (61, .inl (fun _ => 0))) (fun _ => rfl) (by decide) (N' := 61) (by decide) (Nat.le_of_ble_eq_true rfl) (Nat.le_of_ble_eq_true rfl) (Nat.le_of_ble_eq_true rfl) dX11_init_82 (fun q_2935 H nq_2935 h => ?_)
  generalize ef_2936 : hu f_2923 q_2935 (.inl (G 1, 61, .inl (fun _ => 0))) = f_2936 at h
  have d_2938 : q_2728 ≠ q_2935 := (hne0 nq_2935 k_2924)
  have k_2937 : f_2936 q_2728 = some (.inl (G 0, 200, .inl (fun _ => 0))) := by rw [← ef_2936]; exact hu_at k_2924 d_2938
  have d_2940 : q_2739 ≠ q_2935 := (hne0 nq_2935 k_2925)
  have k_2939 : f_2936 q_2739 = some (.inl (G 1, 10, .inl (fun _ => 0))) := by rw [← ef_2936]; exact hu_at k_2925 d_2940
  have d_2942 : q_2753 ≠ q_2935 := (hne0 nq_2935 k_2926)
  have k_2941 : f_2936 q_2753 = some (.inl (G 1, 81, .inl (fun _ => 0))) := by rw [← ef_2936]; exact hu_at k_2926 d_2942
  have d_2944 : q_2770 ≠ q_2935 := (hne0 nq_2935 k_2927)
  have k_2943 : f_2936 q_2770 = some (.inl (G 1, 81, .inl (fun _ => 0))) := by rw [← ef_2936]; exact hu_at k_2927 d_2944
  have d_2946 : q_2790 ≠ q_2935 := (hne0 nq_2935 k_2928)
  have k_2945 : f_2936 q_2790 = some (.inl (G 1, 972, .inl (fun _ => 0))) := by rw [← ef_2936]; exact hu_at k_2928 d_2946
  have d_2948 : q_2813 ≠ q_2935 := (hne0 nq_2935 k_2929)
  have k_2947 : f_2936 q_2813 = some (.inl (G 1, 4, .inl (fun _ => 0))) := by rw [← ef_2936]; exact hu_at k_2929 d_2948
  have d_2950 : q_2839 ≠ q_2935 := (hne0 nq_2935 k_2930)
  have k_2949 : f_2936 q_2839 = some (.inl (G 2, 19600, .inr (.inl (fun _ => 0)))) := by rw [← ef_2936]; exact hu_at k_2930 d_2950
  have d_2952 : q_2868 ≠ q_2935 := (hne0 nq_2935 k_2931)
  have k_2951 : f_2936 q_2868 = some (.inl (G 2, 19600, .inr (.inl (fun _ => 0)))) := by rw [← ef_2936]; exact hu_at k_2931 d_2952
  have d_2954 : q_2900 ≠ q_2935 := (hne0 nq_2935 k_2932)
  have k_2953 : f_2936 q_2900 = some (.inl (G 1, 61, .inl (fun _ => 0))) := by rw [← ef_2936]; exact hu_at k_2932 d_2954
  have d_2956 : x ≠ q_2935 := (hne0 nq_2935 k_2933)
  have k_2955 : f_2936 x = some (.inr (12, [.int 0, .ref q_2728, .int 0, .int 0, .int 0, .ref q_2739, .ref q_2753, .ref q_2770, .ref q_2790, .ref q_2813, .int 0, .int 0, .ref q_2839, .ref q_2868, .int 0, .ref q_2900, .null, .null, .long 0, .null, .null, .null, .null, .null, .null, .null, .null, .int 0, .int 0, .null, .null, .int 0])) := by rw [← ef_2936]; exact hu_at k_2933 d_2956
  have k_2957 : f_2936 q_2935 = some (.inl (G 1, 61, .inl (fun _ => 0))) := by rw [← ef_2936]; exact hu_self _ _ _
  have z_2959 : f q_2935 = none := ol_none o_2934 nq_2935 k_2933
  have o_2958 := ol_upn ef_2936 z_2959 o_2934
  refine q_put C h k_2955 flw_X11_39 (Or.inl hini) (v := .ref q_2935) rfl rfl (Nat.le_of_ble_eq_true rfl) dX11_init_84 (fun H locs h => ?_)
  have h : hw D b0 s.heap (hu f_2936 x (.inr (12, [.int 0, .ref q_2728, .int 0, .int 0, .int 0, .ref q_2739, .ref q_2753, .ref q_2770, .ref q_2790, .ref q_2813, .int 0, .int 0, .ref q_2839, .ref q_2868, .int 0, .ref q_2900, .ref q_2935, .null, .long 0, .null, .null, .null, .null, .null, .null, .null, .null, .int 0, .int 0, .null, .null, .int 0]))) H locs := h
  generalize ef_2960 : hu f_2936 x (.inr (12, [.int 0, .ref q_2728, .int 0, .int 0, .int 0, .ref q_2739, .ref q_2753, .ref q_2770, .ref q_2790, .ref q_2813, .int 0, .int 0, .ref q_2839, .ref q_2868, .int 0, .ref q_2900, .ref q_2935, .null, .long 0, .null, .null, .null, .null, .null, .null, .null, .null, .int 0, .int 0, .null, .null, .int 0])) = f_2960 at h
  have k_2961 : f_2960 q_2728 = some (.inl (G 0, 200, .inl (fun _ => 0))) := by rw [← ef_2960]; exact hu_at k_2937 (Ne.symm d_2731)
  have k_2962 : f_2960 q_2739 = some (.inl (G 1, 10, .inl (fun _ => 0))) := by rw [← ef_2960]; exact hu_at k_2939 (Ne.symm d_2744)
  have k_2963 : f_2960 q_2753 = some (.inl (G 1, 81, .inl (fun _ => 0))) := by rw [← ef_2960]; exact hu_at k_2941 (Ne.symm d_2760)
  have k_2964 : f_2960 q_2770 = some (.inl (G 1, 81, .inl (fun _ => 0))) := by rw [← ef_2960]; exact hu_at k_2943 (Ne.symm d_2779)
  have k_2965 : f_2960 q_2790 = some (.inl (G 1, 972, .inl (fun _ => 0))) := by rw [← ef_2960]; exact hu_at k_2945 (Ne.symm d_2801)
  have k_2966 : f_2960 q_2813 = some (.inl (G 1, 4, .inl (fun _ => 0))) := by rw [← ef_2960]; exact hu_at k_2947 (Ne.symm d_2826)
  have k_2967 : f_2960 q_2839 = some (.inl (G 2, 19600, .inr (.inl (fun _ => 0)))) := by rw [← ef_2960]; exact hu_at k_2949 (Ne.symm d_2854)
  have k_2968 : f_2960 q_2868 = some (.inl (G 2, 19600, .inr (.inl (fun _ => 0)))) := by rw [← ef_2960]; exact hu_at k_2951 (Ne.symm d_2885)
  have k_2969 : f_2960 q_2900 = some (.inl (G 1, 61, .inl (fun _ => 0))) := by rw [← ef_2960]; exact hu_at k_2953 (Ne.symm d_2919)
  have k_2970 : f_2960 q_2935 = some (.inl (G 1, 61, .inl (fun _ => 0))) := by rw [← ef_2960]; exact hu_at k_2957 (Ne.symm d_2956)
  have k_2971 : f_2960 x = some (.inr (12, [.int 0, .ref q_2728, .int 0, .int 0, .int 0, .ref q_2739, .ref q_2753, .ref q_2770, .ref q_2790, .ref q_2813, .int 0, .int 0, .ref q_2839, .ref q_2868, .int 0, .ref q_2900, .ref q_2935, .null, .long 0, .null, .null, .null, .null, .null, .null, .null, .null, .int 0, .int 0, .null, .null, .int 0])) := by rw [← ef_2960]; exact hu_self _ _ _
  have o_2972 := ol_up ef_2960 o_2958
  refine lv_aload_n hx hb dX11_init_87 rfl (lv_at hl 0 rfl) ?_
  refine lv_sipush (v := 169) hx hb dX11_init_88 (by decide) ?_
  refine q_newa C h (atype := .long) 2 rfl rfl rfl w_235 (a0 := (169, .inr (.inl (fun _ => 0)))) (fun _ => rfl) (by decide) (N' := 169) (by decide) (Nat.le_of_ble_eq_true rfl) (Nat.le_of_ble_eq_true rfl) (Nat.le_of_ble_eq_true rfl) dX11_init_91 (fun q_2973 H nq_2973 h => ?_)
  generalize ef_2974 : hu f_2960 q_2973 (.inl (G 2, 169, .inr (.inl (fun _ => 0)))) = f_2974 at h
  have d_2976 : q_2728 ≠ q_2973 := (hne0 nq_2973 k_2961)
  have k_2975 : f_2974 q_2728 = some (.inl (G 0, 200, .inl (fun _ => 0))) := by rw [← ef_2974]; exact hu_at k_2961 d_2976
  have d_2978 : q_2739 ≠ q_2973 := (hne0 nq_2973 k_2962)
  have k_2977 : f_2974 q_2739 = some (.inl (G 1, 10, .inl (fun _ => 0))) := by rw [← ef_2974]; exact hu_at k_2962 d_2978
  have d_2980 : q_2753 ≠ q_2973 := (hne0 nq_2973 k_2963)
  have k_2979 : f_2974 q_2753 = some (.inl (G 1, 81, .inl (fun _ => 0))) := by rw [← ef_2974]; exact hu_at k_2963 d_2980
  have d_2982 : q_2770 ≠ q_2973 := (hne0 nq_2973 k_2964)
  have k_2981 : f_2974 q_2770 = some (.inl (G 1, 81, .inl (fun _ => 0))) := by rw [← ef_2974]; exact hu_at k_2964 d_2982
  have d_2984 : q_2790 ≠ q_2973 := (hne0 nq_2973 k_2965)
  have k_2983 : f_2974 q_2790 = some (.inl (G 1, 972, .inl (fun _ => 0))) := by rw [← ef_2974]; exact hu_at k_2965 d_2984
  have d_2986 : q_2813 ≠ q_2973 := (hne0 nq_2973 k_2966)
  have k_2985 : f_2974 q_2813 = some (.inl (G 1, 4, .inl (fun _ => 0))) := by rw [← ef_2974]; exact hu_at k_2966 d_2986
  have d_2988 : q_2839 ≠ q_2973 := (hne0 nq_2973 k_2967)
  have k_2987 : f_2974 q_2839 = some (.inl (G 2, 19600, .inr (.inl (fun _ => 0)))) := by rw [← ef_2974]; exact hu_at k_2967 d_2988
  have d_2990 : q_2868 ≠ q_2973 := (hne0 nq_2973 k_2968)
  have k_2989 : f_2974 q_2868 = some (.inl (G 2, 19600, .inr (.inl (fun _ => 0)))) := by rw [← ef_2974]; exact hu_at k_2968 d_2990
  have d_2992 : q_2900 ≠ q_2973 := (hne0 nq_2973 k_2969)
  have k_2991 : f_2974 q_2900 = some (.inl (G 1, 61, .inl (fun _ => 0))) := by rw [← ef_2974]; exact hu_at k_2969 d_2992
  have d_2994 : q_2935 ≠ q_2973 := (hne0 nq_2973 k_2970)
  have k_2993 : f_2974 q_2935 = some (.inl (G 1, 61, .inl (fun _ => 0))) := by rw [← ef_2974]; exact hu_at k_2970 d_2994
  have d_2996 : x ≠ q_2973 := (hne0 nq_2973 k_2971)
  have k_2995 : f_2974 x = some (.inr (12, [.int 0, .ref q_2728, .int 0, .int 0, .int 0, .ref q_2739, .ref q_2753, .ref q_2770, .ref q_2790, .ref q_2813, .int 0, .int 0, .ref q_2839, .ref q_2868, .int 0, .ref q_2900, .ref q_2935, .null, .long 0, .null, .null, .null, .null, .null, .null, .null, .null, .int 0, .int 0, .null, .null, .int 0])) := by rw [← ef_2974]; exact hu_at k_2971 d_2996
  have k_2997 : f_2974 q_2973 = some (.inl (G 2, 169, .inr (.inl (fun _ => 0)))) := by rw [← ef_2974]; exact hu_self _ _ _
  have z_2999 : f q_2973 = none := ol_none o_2972 nq_2973 k_2971
  have o_2998 := ol_upn ef_2974 z_2999 o_2972
  refine q_put C h k_2995 flw_X11_42 (Or.inl hini) (v := .ref q_2973) rfl rfl (Nat.le_of_ble_eq_true rfl) dX11_init_93 (fun H locs h => ?_)
  have h : hw D b0 s.heap (hu f_2974 x (.inr (12, [.int 0, .ref q_2728, .int 0, .int 0, .int 0, .ref q_2739, .ref q_2753, .ref q_2770, .ref q_2790, .ref q_2813, .int 0, .int 0, .ref q_2839, .ref q_2868, .int 0, .ref q_2900, .ref q_2935, .ref q_2973, .long 0, .null, .null, .null, .null, .null, .null, .null, .null, .int 0, .int 0, .null, .null, .int 0]))) H locs := h
  generalize ef_3000 : hu f_2974 x (.inr (12, [.int 0, .ref q_2728, .int 0, .int 0, .int 0, .ref q_2739, .ref q_2753, .ref q_2770, .ref q_2790, .ref q_2813, .int 0, .int 0, .ref q_2839, .ref q_2868, .int 0, .ref q_2900, .ref q_2935, .ref q_2973, .long 0, .null, .null, .null, .null, .null, .null, .null, .null, .int 0, .int 0, .null, .null, .int 0])) = f_3000 at h
  have k_3001 : f_3000 q_2728 = some (.inl (G 0, 200, .inl (fun _ => 0))) := by rw [← ef_3000]; exact hu_at k_2975 (Ne.symm d_2731)
  have k_3002 : f_3000 q_2739 = some (.inl (G 1, 10, .inl (fun _ => 0))) := by rw [← ef_3000]; exact hu_at k_2977 (Ne.symm d_2744)
  have k_3003 : f_3000 q_2753 = some (.inl (G 1, 81, .inl (fun _ => 0))) := by rw [← ef_3000]; exact hu_at k_2979 (Ne.symm d_2760)
  have k_3004 : f_3000 q_2770 = some (.inl (G 1, 81, .inl (fun _ => 0))) := by rw [← ef_3000]; exact hu_at k_2981 (Ne.symm d_2779)
  have k_3005 : f_3000 q_2790 = some (.inl (G 1, 972, .inl (fun _ => 0))) := by rw [← ef_3000]; exact hu_at k_2983 (Ne.symm d_2801)
  have k_3006 : f_3000 q_2813 = some (.inl (G 1, 4, .inl (fun _ => 0))) := by rw [← ef_3000]; exact hu_at k_2985 (Ne.symm d_2826)
  have k_3007 : f_3000 q_2839 = some (.inl (G 2, 19600, .inr (.inl (fun _ => 0)))) := by rw [← ef_3000]; exact hu_at k_2987 (Ne.symm d_2854)
  have k_3008 : f_3000 q_2868 = some (.inl (G 2, 19600, .inr (.inl (fun _ => 0)))) := by rw [← ef_3000]; exact hu_at k_2989 (Ne.symm d_2885)
  have k_3009 : f_3000 q_2900 = some (.inl (G 1, 61, .inl (fun _ => 0))) := by rw [← ef_3000]; exact hu_at k_2991 (Ne.symm d_2919)
  have k_3010 : f_3000 q_2935 = some (.inl (G 1, 61, .inl (fun _ => 0))) := by rw [← ef_3000]; exact hu_at k_2993 (Ne.symm d_2956)
  have k_3011 : f_3000 q_2973 = some (.inl (G 2, 169, .inr (.inl (fun _ => 0)))) := by rw [← ef_3000]; exact hu_at k_2997 (Ne.symm d_2996)
  have k_3012 : f_3000 x = some (.inr (12, [.int 0, .ref q_2728, .int 0, .int 0, .int 0, .ref q_2739, .ref q_2753, .ref q_2770, .ref q_2790, .ref q_2813, .int 0, .int 0, .ref q_2839, .ref q_2868, .int 0, .ref q_2900, .ref q_2935, .ref q_2973, .long 0, .null, .null, .null, .null, .null, .null, .null, .null, .int 0, .int 0, .null, .null, .int 0])) := by rw [← ef_3000]; exact hu_self _ _ _
  have o_3013 := ol_up ef_3000 o_2998
  refine lv_aload_n hx hb dX11_init_96 rfl (lv_at hl 0 rfl) ?_
  refine lv_sipush (v := 19600) hx hb dX11_init_97 (by decide) ?_
  refine q_newa C h (atype := .long) 2 rfl rfl rfl w_235 (a0 := (19600, .inr (.inl (fun _ => 0)))) (fun _ => rfl) (by decide) (N' := 19600) (by decide) (Nat.le_of_ble_eq_true rfl) (Nat.le_of_ble_eq_true rfl) (Nat.le_of_ble_eq_true rfl) dX11_init_100 (fun q_3014 H nq_3014 h => ?_)
  generalize ef_3015 : hu f_3000 q_3014 (.inl (G 2, 19600, .inr (.inl (fun _ => 0)))) = f_3015 at h
  have d_3017 : q_2728 ≠ q_3014 := (hne0 nq_3014 k_3001)
  have k_3016 : f_3015 q_2728 = some (.inl (G 0, 200, .inl (fun _ => 0))) := by rw [← ef_3015]; exact hu_at k_3001 d_3017
  have d_3019 : q_2739 ≠ q_3014 := (hne0 nq_3014 k_3002)
  have k_3018 : f_3015 q_2739 = some (.inl (G 1, 10, .inl (fun _ => 0))) := by rw [← ef_3015]; exact hu_at k_3002 d_3019
  have d_3021 : q_2753 ≠ q_3014 := (hne0 nq_3014 k_3003)
  have k_3020 : f_3015 q_2753 = some (.inl (G 1, 81, .inl (fun _ => 0))) := by rw [← ef_3015]; exact hu_at k_3003 d_3021
  have d_3023 : q_2770 ≠ q_3014 := (hne0 nq_3014 k_3004)
  have k_3022 : f_3015 q_2770 = some (.inl (G 1, 81, .inl (fun _ => 0))) := by rw [← ef_3015]; exact hu_at k_3004 d_3023
  have d_3025 : q_2790 ≠ q_3014 := (hne0 nq_3014 k_3005)
  have k_3024 : f_3015 q_2790 = some (.inl (G 1, 972, .inl (fun _ => 0))) := by rw [← ef_3015]; exact hu_at k_3005 d_3025
  have d_3027 : q_2813 ≠ q_3014 := (hne0 nq_3014 k_3006)
  have k_3026 : f_3015 q_2813 = some (.inl (G 1, 4, .inl (fun _ => 0))) := by rw [← ef_3015]; exact hu_at k_3006 d_3027
  have d_3029 : q_2839 ≠ q_3014 := (hne0 nq_3014 k_3007)
  have k_3028 : f_3015 q_2839 = some (.inl (G 2, 19600, .inr (.inl (fun _ => 0)))) := by rw [← ef_3015]; exact hu_at k_3007 d_3029
  have d_3031 : q_2868 ≠ q_3014 := (hne0 nq_3014 k_3008)
  have k_3030 : f_3015 q_2868 = some (.inl (G 2, 19600, .inr (.inl (fun _ => 0)))) := by rw [← ef_3015]; exact hu_at k_3008 d_3031
  have d_3033 : q_2900 ≠ q_3014 := (hne0 nq_3014 k_3009)
  have k_3032 : f_3015 q_2900 = some (.inl (G 1, 61, .inl (fun _ => 0))) := by rw [← ef_3015]; exact hu_at k_3009 d_3033
  have d_3035 : q_2935 ≠ q_3014 := (hne0 nq_3014 k_3010)
  have k_3034 : f_3015 q_2935 = some (.inl (G 1, 61, .inl (fun _ => 0))) := by rw [← ef_3015]; exact hu_at k_3010 d_3035
  have d_3037 : q_2973 ≠ q_3014 := (hne0 nq_3014 k_3011)
  have k_3036 : f_3015 q_2973 = some (.inl (G 2, 169, .inr (.inl (fun _ => 0)))) := by rw [← ef_3015]; exact hu_at k_3011 d_3037
  have d_3039 : x ≠ q_3014 := (hne0 nq_3014 k_3012)
  have k_3038 : f_3015 x = some (.inr (12, [.int 0, .ref q_2728, .int 0, .int 0, .int 0, .ref q_2739, .ref q_2753, .ref q_2770, .ref q_2790, .ref q_2813, .int 0, .int 0, .ref q_2839, .ref q_2868, .int 0, .ref q_2900, .ref q_2935, .ref q_2973, .long 0, .null, .null, .null, .null, .null, .null, .null, .null, .int 0, .int 0, .null, .null, .int 0])) := by rw [← ef_3015]; exact hu_at k_3012 d_3039
  have k_3040 : f_3015 q_3014 = some (.inl (G 2, 19600, .inr (.inl (fun _ => 0)))) := by rw [← ef_3015]; exact hu_self _ _ _
  have z_3042 : f q_3014 = none := ol_none o_3013 nq_3014 k_3012
  have o_3041 := ol_upn ef_3015 z_3042 o_3013
  refine q_put C h k_3038 flw_X11_45 (Or.inl hini) (v := .ref q_3014) rfl rfl (Nat.le_of_ble_eq_true rfl) dX11_init_102 (fun H locs h => ?_)
  have h : hw D b0 s.heap (hu f_3015 x (.inr (12, [.int 0, .ref q_2728, .int 0, .int 0, .int 0, .ref q_2739, .ref q_2753, .ref q_2770, .ref q_2790, .ref q_2813, .int 0, .int 0, .ref q_2839, .ref q_2868, .int 0, .ref q_2900, .ref q_2935, .ref q_2973, .long 0, .ref q_3014, .null, .null, .null, .null, .null, .null, .null, .int 0, .int 0, .null, .null, .int 0]))) H locs := h
  generalize ef_3043 : hu f_3015 x (.inr (12, [.int 0, .ref q_2728, .int 0, .int 0, .int 0, .ref q_2739, .ref q_2753, .ref q_2770, .ref q_2790, .ref q_2813, .int 0, .int 0, .ref q_2839, .ref q_2868, .int 0, .ref q_2900, .ref q_2935, .ref q_2973, .long 0, .ref q_3014, .null, .null, .null, .null, .null, .null, .null, .int 0, .int 0, .null, .null, .int 0])) = f_3043 at h
  have k_3044 : f_3043 q_2728 = some (.inl (G 0, 200, .inl (fun _ => 0))) := by rw [← ef_3043]; exact hu_at k_3016 (Ne.symm d_2731)
  have k_3045 : f_3043 q_2739 = some (.inl (G 1, 10, .inl (fun _ => 0))) := by rw [← ef_3043]; exact hu_at k_3018 (Ne.symm d_2744)
  have k_3046 : f_3043 q_2753 = some (.inl (G 1, 81, .inl (fun _ => 0))) := by rw [← ef_3043]; exact hu_at k_3020 (Ne.symm d_2760)
  have k_3047 : f_3043 q_2770 = some (.inl (G 1, 81, .inl (fun _ => 0))) := by rw [← ef_3043]; exact hu_at k_3022 (Ne.symm d_2779)
  have k_3048 : f_3043 q_2790 = some (.inl (G 1, 972, .inl (fun _ => 0))) := by rw [← ef_3043]; exact hu_at k_3024 (Ne.symm d_2801)
  have k_3049 : f_3043 q_2813 = some (.inl (G 1, 4, .inl (fun _ => 0))) := by rw [← ef_3043]; exact hu_at k_3026 (Ne.symm d_2826)
  have k_3050 : f_3043 q_2839 = some (.inl (G 2, 19600, .inr (.inl (fun _ => 0)))) := by rw [← ef_3043]; exact hu_at k_3028 (Ne.symm d_2854)
  have k_3051 : f_3043 q_2868 = some (.inl (G 2, 19600, .inr (.inl (fun _ => 0)))) := by rw [← ef_3043]; exact hu_at k_3030 (Ne.symm d_2885)
  have k_3052 : f_3043 q_2900 = some (.inl (G 1, 61, .inl (fun _ => 0))) := by rw [← ef_3043]; exact hu_at k_3032 (Ne.symm d_2919)
  have k_3053 : f_3043 q_2935 = some (.inl (G 1, 61, .inl (fun _ => 0))) := by rw [← ef_3043]; exact hu_at k_3034 (Ne.symm d_2956)
  have k_3054 : f_3043 q_2973 = some (.inl (G 2, 169, .inr (.inl (fun _ => 0)))) := by rw [← ef_3043]; exact hu_at k_3036 (Ne.symm d_2996)
  have k_3055 : f_3043 q_3014 = some (.inl (G 2, 19600, .inr (.inl (fun _ => 0)))) := by rw [← ef_3043]; exact hu_at k_3040 (Ne.symm d_3039)
  have k_3056 : f_3043 x = some (.inr (12, [.int 0, .ref q_2728, .int 0, .int 0, .int 0, .ref q_2739, .ref q_2753, .ref q_2770, .ref q_2790, .ref q_2813, .int 0, .int 0, .ref q_2839, .ref q_2868, .int 0, .ref q_2900, .ref q_2935, .ref q_2973, .long 0, .ref q_3014, .null, .null, .null, .null, .null, .null, .null, .int 0, .int 0, .null, .null, .int 0])) := by rw [← ef_3043]; exact hu_self _ _ _
  have o_3057 := ol_up ef_3043 o_3041
  refine lv_aload_n hx hb dX11_init_105 rfl (lv_at hl 0 rfl) ?_
  refine lv_bipush (v := 41) hx hb dX11_init_106 (by decide) ?_
  refine q_newa C h (atype := .int) 1 rfl rfl rfl w_161 (a0 := (41, .inl (fun _ => 0))) (fun _ => rfl) (by decide) (N' := 41) (by decide) (Nat.le_of_ble_eq_true rfl) (Nat.le_of_ble_eq_true rfl) (Nat.le_of_ble_eq_true rfl) dX11_init_108 (fun q_3058 H nq_3058 h => ?_)
  generalize ef_3059 : hu f_3043 q_3058 (.inl (G 1, 41, .inl (fun _ => 0))) = f_3059 at h
  have d_3061 : q_2728 ≠ q_3058 := (hne0 nq_3058 k_3044)
  have k_3060 : f_3059 q_2728 = some (.inl (G 0, 200, .inl (fun _ => 0))) := by rw [← ef_3059]; exact hu_at k_3044 d_3061
  have d_3063 : q_2739 ≠ q_3058 := (hne0 nq_3058 k_3045)
  have k_3062 : f_3059 q_2739 = some (.inl (G 1, 10, .inl (fun _ => 0))) := by rw [← ef_3059]; exact hu_at k_3045 d_3063
  have d_3065 : q_2753 ≠ q_3058 := (hne0 nq_3058 k_3046)
  have k_3064 : f_3059 q_2753 = some (.inl (G 1, 81, .inl (fun _ => 0))) := by rw [← ef_3059]; exact hu_at k_3046 d_3065
  have d_3067 : q_2770 ≠ q_3058 := (hne0 nq_3058 k_3047)
  have k_3066 : f_3059 q_2770 = some (.inl (G 1, 81, .inl (fun _ => 0))) := by rw [← ef_3059]; exact hu_at k_3047 d_3067
  have d_3069 : q_2790 ≠ q_3058 := (hne0 nq_3058 k_3048)
  have k_3068 : f_3059 q_2790 = some (.inl (G 1, 972, .inl (fun _ => 0))) := by rw [← ef_3059]; exact hu_at k_3048 d_3069
  have d_3071 : q_2813 ≠ q_3058 := (hne0 nq_3058 k_3049)
  have k_3070 : f_3059 q_2813 = some (.inl (G 1, 4, .inl (fun _ => 0))) := by rw [← ef_3059]; exact hu_at k_3049 d_3071
  have d_3073 : q_2839 ≠ q_3058 := (hne0 nq_3058 k_3050)
  have k_3072 : f_3059 q_2839 = some (.inl (G 2, 19600, .inr (.inl (fun _ => 0)))) := by rw [← ef_3059]; exact hu_at k_3050 d_3073
  have d_3075 : q_2868 ≠ q_3058 := (hne0 nq_3058 k_3051)
  have k_3074 : f_3059 q_2868 = some (.inl (G 2, 19600, .inr (.inl (fun _ => 0)))) := by rw [← ef_3059]; exact hu_at k_3051 d_3075
  have d_3077 : q_2900 ≠ q_3058 := (hne0 nq_3058 k_3052)
  have k_3076 : f_3059 q_2900 = some (.inl (G 1, 61, .inl (fun _ => 0))) := by rw [← ef_3059]; exact hu_at k_3052 d_3077
  have d_3079 : q_2935 ≠ q_3058 := (hne0 nq_3058 k_3053)
  have k_3078 : f_3059 q_2935 = some (.inl (G 1, 61, .inl (fun _ => 0))) := by rw [← ef_3059]; exact hu_at k_3053 d_3079
  have d_3081 : q_2973 ≠ q_3058 := (hne0 nq_3058 k_3054)
  have k_3080 : f_3059 q_2973 = some (.inl (G 2, 169, .inr (.inl (fun _ => 0)))) := by rw [← ef_3059]; exact hu_at k_3054 d_3081
  have d_3083 : q_3014 ≠ q_3058 := (hne0 nq_3058 k_3055)
  have k_3082 : f_3059 q_3014 = some (.inl (G 2, 19600, .inr (.inl (fun _ => 0)))) := by rw [← ef_3059]; exact hu_at k_3055 d_3083
  have d_3085 : x ≠ q_3058 := (hne0 nq_3058 k_3056)
  have k_3084 : f_3059 x = some (.inr (12, [.int 0, .ref q_2728, .int 0, .int 0, .int 0, .ref q_2739, .ref q_2753, .ref q_2770, .ref q_2790, .ref q_2813, .int 0, .int 0, .ref q_2839, .ref q_2868, .int 0, .ref q_2900, .ref q_2935, .ref q_2973, .long 0, .ref q_3014, .null, .null, .null, .null, .null, .null, .null, .int 0, .int 0, .null, .null, .int 0])) := by rw [← ef_3059]; exact hu_at k_3056 d_3085
  have k_3086 : f_3059 q_3058 = some (.inl (G 1, 41, .inl (fun _ => 0))) := by rw [← ef_3059]; exact hu_self _ _ _
  have z_3088 : f q_3058 = none := ol_none o_3057 nq_3058 k_3056
  have o_3087 := ol_upn ef_3059 z_3088 o_3057
  refine q_put C h k_3084 flw_X11_48 (Or.inl hini) (v := .ref q_3058) rfl rfl (Nat.le_of_ble_eq_true rfl) dX11_init_110 (fun H locs h => ?_)
  have h : hw D b0 s.heap (hu f_3059 x (.inr (12, [.int 0, .ref q_2728, .int 0, .int 0, .int 0, .ref q_2739, .ref q_2753, .ref q_2770, .ref q_2790, .ref q_2813, .int 0, .int 0, .ref q_2839, .ref q_2868, .int 0, .ref q_2900, .ref q_2935, .ref q_2973, .long 0, .ref q_3014, .ref q_3058, .null, .null, .null, .null, .null, .null, .int 0, .int 0, .null, .null, .int 0]))) H locs := h
  generalize ef_3089 : hu f_3059 x (.inr (12, [.int 0, .ref q_2728, .int 0, .int 0, .int 0, .ref q_2739, .ref q_2753, .ref q_2770, .ref q_2790, .ref q_2813, .int 0, .int 0, .ref q_2839, .ref q_2868, .int 0, .ref q_2900, .ref q_2935, .ref q_2973, .long 0, .ref q_3014, .ref q_3058, .null, .null, .null, .null, .null, .null, .int 0, .int 0, .null, .null, .int 0])) = f_3089 at h
  have k_3090 : f_3089 q_2728 = some (.inl (G 0, 200, .inl (fun _ => 0))) := by rw [← ef_3089]; exact hu_at k_3060 (Ne.symm d_2731)
  have k_3091 : f_3089 q_2739 = some (.inl (G 1, 10, .inl (fun _ => 0))) := by rw [← ef_3089]; exact hu_at k_3062 (Ne.symm d_2744)
  have k_3092 : f_3089 q_2753 = some (.inl (G 1, 81, .inl (fun _ => 0))) := by rw [← ef_3089]; exact hu_at k_3064 (Ne.symm d_2760)
  have k_3093 : f_3089 q_2770 = some (.inl (G 1, 81, .inl (fun _ => 0))) := by rw [← ef_3089]; exact hu_at k_3066 (Ne.symm d_2779)
  have k_3094 : f_3089 q_2790 = some (.inl (G 1, 972, .inl (fun _ => 0))) := by rw [← ef_3089]; exact hu_at k_3068 (Ne.symm d_2801)
  have k_3095 : f_3089 q_2813 = some (.inl (G 1, 4, .inl (fun _ => 0))) := by rw [← ef_3089]; exact hu_at k_3070 (Ne.symm d_2826)
  have k_3096 : f_3089 q_2839 = some (.inl (G 2, 19600, .inr (.inl (fun _ => 0)))) := by rw [← ef_3089]; exact hu_at k_3072 (Ne.symm d_2854)
  have k_3097 : f_3089 q_2868 = some (.inl (G 2, 19600, .inr (.inl (fun _ => 0)))) := by rw [← ef_3089]; exact hu_at k_3074 (Ne.symm d_2885)
  have k_3098 : f_3089 q_2900 = some (.inl (G 1, 61, .inl (fun _ => 0))) := by rw [← ef_3089]; exact hu_at k_3076 (Ne.symm d_2919)
  have k_3099 : f_3089 q_2935 = some (.inl (G 1, 61, .inl (fun _ => 0))) := by rw [← ef_3089]; exact hu_at k_3078 (Ne.symm d_2956)
  have k_3100 : f_3089 q_2973 = some (.inl (G 2, 169, .inr (.inl (fun _ => 0)))) := by rw [← ef_3089]; exact hu_at k_3080 (Ne.symm d_2996)
  have k_3101 : f_3089 q_3014 = some (.inl (G 2, 19600, .inr (.inl (fun _ => 0)))) := by rw [← ef_3089]; exact hu_at k_3082 (Ne.symm d_3039)
  have k_3102 : f_3089 q_3058 = some (.inl (G 1, 41, .inl (fun _ => 0))) := by rw [← ef_3089]; exact hu_at k_3086 (Ne.symm d_3085)
  have k_3103 : f_3089 x = some (.inr (12, [.int 0, .ref q_2728, .int 0, .int 0, .int 0, .ref q_2739, .ref q_2753, .ref q_2770, .ref q_2790, .ref q_2813, .int 0, .int 0, .ref q_2839, .ref q_2868, .int 0, .ref q_2900, .ref q_2935, .ref q_2973, .long 0, .ref q_3014, .ref q_3058, .null, .null, .null, .null, .null, .null, .int 0, .int 0, .null, .null, .int 0])) := by rw [← ef_3089]; exact hu_self _ _ _
  have o_3104 := ol_up ef_3089 o_3087
  refine lv_aload_n hx hb dX11_init_113 rfl (lv_at hl 0 rfl) ?_
  refine lv_bipush (v := 41) hx hb dX11_init_114 (by decide) ?_
  refine q_newa C h (atype := .int) 1 rfl rfl rfl w_161 (a0 := (41, .inl (fun _ => 0))) (fun _ => rfl) (by decide) (N' := 41) (by decide) (Nat.le_of_ble_eq_true rfl) (Nat.le_of_ble_eq_true rfl) (Nat.le_of_ble_eq_true rfl) dX11_init_116 (fun q_3105 H nq_3105 h => ?_)
  generalize ef_3106 : hu f_3089 q_3105 (.inl (G 1, 41, .inl (fun _ => 0))) = f_3106 at h
  have d_3108 : q_2728 ≠ q_3105 := (hne0 nq_3105 k_3090)
  have k_3107 : f_3106 q_2728 = some (.inl (G 0, 200, .inl (fun _ => 0))) := by rw [← ef_3106]; exact hu_at k_3090 d_3108
  have d_3110 : q_2739 ≠ q_3105 := (hne0 nq_3105 k_3091)
  have k_3109 : f_3106 q_2739 = some (.inl (G 1, 10, .inl (fun _ => 0))) := by rw [← ef_3106]; exact hu_at k_3091 d_3110
  have d_3112 : q_2753 ≠ q_3105 := (hne0 nq_3105 k_3092)
  have k_3111 : f_3106 q_2753 = some (.inl (G 1, 81, .inl (fun _ => 0))) := by rw [← ef_3106]; exact hu_at k_3092 d_3112
  have d_3114 : q_2770 ≠ q_3105 := (hne0 nq_3105 k_3093)
  have k_3113 : f_3106 q_2770 = some (.inl (G 1, 81, .inl (fun _ => 0))) := by rw [← ef_3106]; exact hu_at k_3093 d_3114
  have d_3116 : q_2790 ≠ q_3105 := (hne0 nq_3105 k_3094)
  have k_3115 : f_3106 q_2790 = some (.inl (G 1, 972, .inl (fun _ => 0))) := by rw [← ef_3106]; exact hu_at k_3094 d_3116
  have d_3118 : q_2813 ≠ q_3105 := (hne0 nq_3105 k_3095)
  have k_3117 : f_3106 q_2813 = some (.inl (G 1, 4, .inl (fun _ => 0))) := by rw [← ef_3106]; exact hu_at k_3095 d_3118
  have d_3120 : q_2839 ≠ q_3105 := (hne0 nq_3105 k_3096)
  have k_3119 : f_3106 q_2839 = some (.inl (G 2, 19600, .inr (.inl (fun _ => 0)))) := by rw [← ef_3106]; exact hu_at k_3096 d_3120
  have d_3122 : q_2868 ≠ q_3105 := (hne0 nq_3105 k_3097)
  have k_3121 : f_3106 q_2868 = some (.inl (G 2, 19600, .inr (.inl (fun _ => 0)))) := by rw [← ef_3106]; exact hu_at k_3097 d_3122
  have d_3124 : q_2900 ≠ q_3105 := (hne0 nq_3105 k_3098)
  have k_3123 : f_3106 q_2900 = some (.inl (G 1, 61, .inl (fun _ => 0))) := by rw [← ef_3106]; exact hu_at k_3098 d_3124
  have d_3126 : q_2935 ≠ q_3105 := (hne0 nq_3105 k_3099)
  have k_3125 : f_3106 q_2935 = some (.inl (G 1, 61, .inl (fun _ => 0))) := by rw [← ef_3106]; exact hu_at k_3099 d_3126
  have d_3128 : q_2973 ≠ q_3105 := (hne0 nq_3105 k_3100)
  have k_3127 : f_3106 q_2973 = some (.inl (G 2, 169, .inr (.inl (fun _ => 0)))) := by rw [← ef_3106]; exact hu_at k_3100 d_3128
  have d_3130 : q_3014 ≠ q_3105 := (hne0 nq_3105 k_3101)
  have k_3129 : f_3106 q_3014 = some (.inl (G 2, 19600, .inr (.inl (fun _ => 0)))) := by rw [← ef_3106]; exact hu_at k_3101 d_3130
  have d_3132 : q_3058 ≠ q_3105 := (hne0 nq_3105 k_3102)
  have k_3131 : f_3106 q_3058 = some (.inl (G 1, 41, .inl (fun _ => 0))) := by rw [← ef_3106]; exact hu_at k_3102 d_3132
  have d_3134 : x ≠ q_3105 := (hne0 nq_3105 k_3103)
  have k_3133 : f_3106 x = some (.inr (12, [.int 0, .ref q_2728, .int 0, .int 0, .int 0, .ref q_2739, .ref q_2753, .ref q_2770, .ref q_2790, .ref q_2813, .int 0, .int 0, .ref q_2839, .ref q_2868, .int 0, .ref q_2900, .ref q_2935, .ref q_2973, .long 0, .ref q_3014, .ref q_3058, .null, .null, .null, .null, .null, .null, .int 0, .int 0, .null, .null, .int 0])) := by rw [← ef_3106]; exact hu_at k_3103 d_3134
  have k_3135 : f_3106 q_3105 = some (.inl (G 1, 41, .inl (fun _ => 0))) := by rw [← ef_3106]; exact hu_self _ _ _
  have z_3137 : f q_3105 = none := ol_none o_3104 nq_3105 k_3103
  have o_3136 := ol_upn ef_3106 z_3137 o_3104
  refine q_put C h k_3133 flw_X11_51 (Or.inl hini) (v := .ref q_3105) rfl rfl (Nat.le_of_ble_eq_true rfl) dX11_init_118 (fun H locs h => ?_)
  have h : hw D b0 s.heap (hu f_3106 x (.inr (12, [.int 0, .ref q_2728, .int 0, .int 0, .int 0, .ref q_2739, .ref q_2753, .ref q_2770, .ref q_2790, .ref q_2813, .int 0, .int 0, .ref q_2839, .ref q_2868, .int 0, .ref q_2900, .ref q_2935, .ref q_2973, .long 0, .ref q_3014, .ref q_3058, .ref q_3105, .null, .null, .null, .null, .null, .int 0, .int 0, .null, .null, .int 0]))) H locs := h
  generalize ef_3138 : hu f_3106 x (.inr (12, [.int 0, .ref q_2728, .int 0, .int 0, .int 0, .ref q_2739, .ref q_2753, .ref q_2770, .ref q_2790, .ref q_2813, .int 0, .int 0, .ref q_2839, .ref q_2868, .int 0, .ref q_2900, .ref q_2935, .ref q_2973, .long 0, .ref q_3014, .ref q_3058, .ref q_3105, .null, .null, .null, .null, .null, .int 0, .int 0, .null, .null, .int 0])) = f_3138 at h
  have k_3139 : f_3138 q_2728 = some (.inl (G 0, 200, .inl (fun _ => 0))) := by rw [← ef_3138]; exact hu_at k_3107 (Ne.symm d_2731)
  have k_3140 : f_3138 q_2739 = some (.inl (G 1, 10, .inl (fun _ => 0))) := by rw [← ef_3138]; exact hu_at k_3109 (Ne.symm d_2744)
  have k_3141 : f_3138 q_2753 = some (.inl (G 1, 81, .inl (fun _ => 0))) := by rw [← ef_3138]; exact hu_at k_3111 (Ne.symm d_2760)
  have k_3142 : f_3138 q_2770 = some (.inl (G 1, 81, .inl (fun _ => 0))) := by rw [← ef_3138]; exact hu_at k_3113 (Ne.symm d_2779)
  have k_3143 : f_3138 q_2790 = some (.inl (G 1, 972, .inl (fun _ => 0))) := by rw [← ef_3138]; exact hu_at k_3115 (Ne.symm d_2801)
  have k_3144 : f_3138 q_2813 = some (.inl (G 1, 4, .inl (fun _ => 0))) := by rw [← ef_3138]; exact hu_at k_3117 (Ne.symm d_2826)
  have k_3145 : f_3138 q_2839 = some (.inl (G 2, 19600, .inr (.inl (fun _ => 0)))) := by rw [← ef_3138]; exact hu_at k_3119 (Ne.symm d_2854)
  have k_3146 : f_3138 q_2868 = some (.inl (G 2, 19600, .inr (.inl (fun _ => 0)))) := by rw [← ef_3138]; exact hu_at k_3121 (Ne.symm d_2885)
  have k_3147 : f_3138 q_2900 = some (.inl (G 1, 61, .inl (fun _ => 0))) := by rw [← ef_3138]; exact hu_at k_3123 (Ne.symm d_2919)
  have k_3148 : f_3138 q_2935 = some (.inl (G 1, 61, .inl (fun _ => 0))) := by rw [← ef_3138]; exact hu_at k_3125 (Ne.symm d_2956)
  have k_3149 : f_3138 q_2973 = some (.inl (G 2, 169, .inr (.inl (fun _ => 0)))) := by rw [← ef_3138]; exact hu_at k_3127 (Ne.symm d_2996)
  have k_3150 : f_3138 q_3014 = some (.inl (G 2, 19600, .inr (.inl (fun _ => 0)))) := by rw [← ef_3138]; exact hu_at k_3129 (Ne.symm d_3039)
  have k_3151 : f_3138 q_3058 = some (.inl (G 1, 41, .inl (fun _ => 0))) := by rw [← ef_3138]; exact hu_at k_3131 (Ne.symm d_3085)
  have k_3152 : f_3138 q_3105 = some (.inl (G 1, 41, .inl (fun _ => 0))) := by rw [← ef_3138]; exact hu_at k_3135 (Ne.symm d_3134)
  have k_3153 : f_3138 x = some (.inr (12, [.int 0, .ref q_2728, .int 0, .int 0, .int 0, .ref q_2739, .ref q_2753, .ref q_2770, .ref q_2790, .ref q_2813, .int 0, .int 0, .ref q_2839, .ref q_2868, .int 0, .ref q_2900, .ref q_2935, .ref q_2973, .long 0, .ref q_3014, .ref q_3058, .ref q_3105, .null, .null, .null, .null, .null, .int 0, .int 0, .null, .null, .int 0])) := by rw [← ef_3138]; exact hu_self _ _ _
  have o_3154 := ol_up ef_3138 o_3136
  refine lv_aload_n hx hb dX11_init_121 rfl (lv_at hl 0 rfl) ?_
  refine lv_sipush (v := 1708) hx hb dX11_init_122 (by decide) ?_
  refine q_newa C h (atype := .long) 2 rfl rfl rfl w_235 (a0 := (1708, .inr (.inl (fun _ => 0)))) (fun _ => rfl) (by decide) (N' := 1708) (by decide) (Nat.le_of_ble_eq_true rfl) (Nat.le_of_ble_eq_true rfl) (Nat.le_of_ble_eq_true rfl) dX11_init_125 (fun q_3155 H nq_3155 h => ?_)
  generalize ef_3156 : hu f_3138 q_3155 (.inl (G 2, 1708, .inr (.inl (fun _ => 0)))) = f_3156 at h
  have d_3158 : q_2728 ≠ q_3155 := (hne0 nq_3155 k_3139)
  have k_3157 : f_3156 q_2728 = some (.inl (G 0, 200, .inl (fun _ => 0))) := by rw [← ef_3156]; exact hu_at k_3139 d_3158
  have d_3160 : q_2739 ≠ q_3155 := (hne0 nq_3155 k_3140)
  have k_3159 : f_3156 q_2739 = some (.inl (G 1, 10, .inl (fun _ => 0))) := by rw [← ef_3156]; exact hu_at k_3140 d_3160
  have d_3162 : q_2753 ≠ q_3155 := (hne0 nq_3155 k_3141)
  have k_3161 : f_3156 q_2753 = some (.inl (G 1, 81, .inl (fun _ => 0))) := by rw [← ef_3156]; exact hu_at k_3141 d_3162
  have d_3164 : q_2770 ≠ q_3155 := (hne0 nq_3155 k_3142)
  have k_3163 : f_3156 q_2770 = some (.inl (G 1, 81, .inl (fun _ => 0))) := by rw [← ef_3156]; exact hu_at k_3142 d_3164
  have d_3166 : q_2790 ≠ q_3155 := (hne0 nq_3155 k_3143)
  have k_3165 : f_3156 q_2790 = some (.inl (G 1, 972, .inl (fun _ => 0))) := by rw [← ef_3156]; exact hu_at k_3143 d_3166
  have d_3168 : q_2813 ≠ q_3155 := (hne0 nq_3155 k_3144)
  have k_3167 : f_3156 q_2813 = some (.inl (G 1, 4, .inl (fun _ => 0))) := by rw [← ef_3156]; exact hu_at k_3144 d_3168
  have d_3170 : q_2839 ≠ q_3155 := (hne0 nq_3155 k_3145)
  have k_3169 : f_3156 q_2839 = some (.inl (G 2, 19600, .inr (.inl (fun _ => 0)))) := by rw [← ef_3156]; exact hu_at k_3145 d_3170
  have d_3172 : q_2868 ≠ q_3155 := (hne0 nq_3155 k_3146)
  have k_3171 : f_3156 q_2868 = some (.inl (G 2, 19600, .inr (.inl (fun _ => 0)))) := by rw [← ef_3156]; exact hu_at k_3146 d_3172
  have d_3174 : q_2900 ≠ q_3155 := (hne0 nq_3155 k_3147)
  have k_3173 : f_3156 q_2900 = some (.inl (G 1, 61, .inl (fun _ => 0))) := by rw [← ef_3156]; exact hu_at k_3147 d_3174
  have d_3176 : q_2935 ≠ q_3155 := (hne0 nq_3155 k_3148)
  have k_3175 : f_3156 q_2935 = some (.inl (G 1, 61, .inl (fun _ => 0))) := by rw [← ef_3156]; exact hu_at k_3148 d_3176
  have d_3178 : q_2973 ≠ q_3155 := (hne0 nq_3155 k_3149)
  have k_3177 : f_3156 q_2973 = some (.inl (G 2, 169, .inr (.inl (fun _ => 0)))) := by rw [← ef_3156]; exact hu_at k_3149 d_3178
  have d_3180 : q_3014 ≠ q_3155 := (hne0 nq_3155 k_3150)
  have k_3179 : f_3156 q_3014 = some (.inl (G 2, 19600, .inr (.inl (fun _ => 0)))) := by rw [← ef_3156]; exact hu_at k_3150 d_3180
  have d_3182 : q_3058 ≠ q_3155 := (hne0 nq_3155 k_3151)
  have k_3181 : f_3156 q_3058 = some (.inl (G 1, 41, .inl (fun _ => 0))) := by rw [← ef_3156]; exact hu_at k_3151 d_3182
  have d_3184 : q_3105 ≠ q_3155 := (hne0 nq_3155 k_3152)
  have k_3183 : f_3156 q_3105 = some (.inl (G 1, 41, .inl (fun _ => 0))) := by rw [← ef_3156]; exact hu_at k_3152 d_3184
  have d_3186 : x ≠ q_3155 := (hne0 nq_3155 k_3153)
  have k_3185 : f_3156 x = some (.inr (12, [.int 0, .ref q_2728, .int 0, .int 0, .int 0, .ref q_2739, .ref q_2753, .ref q_2770, .ref q_2790, .ref q_2813, .int 0, .int 0, .ref q_2839, .ref q_2868, .int 0, .ref q_2900, .ref q_2935, .ref q_2973, .long 0, .ref q_3014, .ref q_3058, .ref q_3105, .null, .null, .null, .null, .null, .int 0, .int 0, .null, .null, .int 0])) := by rw [← ef_3156]; exact hu_at k_3153 d_3186
  have k_3187 : f_3156 q_3155 = some (.inl (G 2, 1708, .inr (.inl (fun _ => 0)))) := by rw [← ef_3156]; exact hu_self _ _ _
  have z_3189 : f q_3155 = none := ol_none o_3154 nq_3155 k_3153
  have o_3188 := ol_upn ef_3156 z_3189 o_3154
  refine q_put C h k_3185 flw_X11_54 (Or.inl hini) (v := .ref q_3155) rfl rfl (Nat.le_of_ble_eq_true rfl) dX11_init_127 (fun H locs h => ?_)
  have h : hw D b0 s.heap (hu f_3156 x (.inr (12, [.int 0, .ref q_2728, .int 0, .int 0, .int 0, .ref q_2739, .ref q_2753, .ref q_2770, .ref q_2790, .ref q_2813, .int 0, .int 0, .ref q_2839, .ref q_2868, .int 0, .ref q_2900, .ref q_2935, .ref q_2973, .long 0, .ref q_3014, .ref q_3058, .ref q_3105, .ref q_3155, .null, .null, .null, .null, .int 0, .int 0, .null, .null, .int 0]))) H locs := h
  generalize ef_3190 : hu f_3156 x (.inr (12, [.int 0, .ref q_2728, .int 0, .int 0, .int 0, .ref q_2739, .ref q_2753, .ref q_2770, .ref q_2790, .ref q_2813, .int 0, .int 0, .ref q_2839, .ref q_2868, .int 0, .ref q_2900, .ref q_2935, .ref q_2973, .long 0, .ref q_3014, .ref q_3058, .ref q_3105, .ref q_3155, .null, .null, .null, .null, .int 0, .int 0, .null, .null, .int 0])) = f_3190 at h
  have k_3191 : f_3190 q_2728 = some (.inl (G 0, 200, .inl (fun _ => 0))) := by rw [← ef_3190]; exact hu_at k_3157 (Ne.symm d_2731)
  have k_3192 : f_3190 q_2739 = some (.inl (G 1, 10, .inl (fun _ => 0))) := by rw [← ef_3190]; exact hu_at k_3159 (Ne.symm d_2744)
  have k_3193 : f_3190 q_2753 = some (.inl (G 1, 81, .inl (fun _ => 0))) := by rw [← ef_3190]; exact hu_at k_3161 (Ne.symm d_2760)
  have k_3194 : f_3190 q_2770 = some (.inl (G 1, 81, .inl (fun _ => 0))) := by rw [← ef_3190]; exact hu_at k_3163 (Ne.symm d_2779)
  have k_3195 : f_3190 q_2790 = some (.inl (G 1, 972, .inl (fun _ => 0))) := by rw [← ef_3190]; exact hu_at k_3165 (Ne.symm d_2801)
  have k_3196 : f_3190 q_2813 = some (.inl (G 1, 4, .inl (fun _ => 0))) := by rw [← ef_3190]; exact hu_at k_3167 (Ne.symm d_2826)
  have k_3197 : f_3190 q_2839 = some (.inl (G 2, 19600, .inr (.inl (fun _ => 0)))) := by rw [← ef_3190]; exact hu_at k_3169 (Ne.symm d_2854)
  have k_3198 : f_3190 q_2868 = some (.inl (G 2, 19600, .inr (.inl (fun _ => 0)))) := by rw [← ef_3190]; exact hu_at k_3171 (Ne.symm d_2885)
  have k_3199 : f_3190 q_2900 = some (.inl (G 1, 61, .inl (fun _ => 0))) := by rw [← ef_3190]; exact hu_at k_3173 (Ne.symm d_2919)
  have k_3200 : f_3190 q_2935 = some (.inl (G 1, 61, .inl (fun _ => 0))) := by rw [← ef_3190]; exact hu_at k_3175 (Ne.symm d_2956)
  have k_3201 : f_3190 q_2973 = some (.inl (G 2, 169, .inr (.inl (fun _ => 0)))) := by rw [← ef_3190]; exact hu_at k_3177 (Ne.symm d_2996)
  have k_3202 : f_3190 q_3014 = some (.inl (G 2, 19600, .inr (.inl (fun _ => 0)))) := by rw [← ef_3190]; exact hu_at k_3179 (Ne.symm d_3039)
  have k_3203 : f_3190 q_3058 = some (.inl (G 1, 41, .inl (fun _ => 0))) := by rw [← ef_3190]; exact hu_at k_3181 (Ne.symm d_3085)
  have k_3204 : f_3190 q_3105 = some (.inl (G 1, 41, .inl (fun _ => 0))) := by rw [← ef_3190]; exact hu_at k_3183 (Ne.symm d_3134)
  have k_3205 : f_3190 q_3155 = some (.inl (G 2, 1708, .inr (.inl (fun _ => 0)))) := by rw [← ef_3190]; exact hu_at k_3187 (Ne.symm d_3186)
  have k_3206 : f_3190 x = some (.inr (12, [.int 0, .ref q_2728, .int 0, .int 0, .int 0, .ref q_2739, .ref q_2753, .ref q_2770, .ref q_2790, .ref q_2813, .int 0, .int 0, .ref q_2839, .ref q_2868, .int 0, .ref q_2900, .ref q_2935, .ref q_2973, .long 0, .ref q_3014, .ref q_3058, .ref q_3105, .ref q_3155, .null, .null, .null, .null, .int 0, .int 0, .null, .null, .int 0])) := by rw [← ef_3190]; exact hu_self _ _ _
  have o_3207 := ol_up ef_3190 o_3188
  refine lv_aload_n hx hb dX11_init_130 rfl (lv_at hl 0 rfl) ?_
  refine lv_sipush (v := 1708) hx hb dX11_init_131 (by decide) ?_
  refine q_newa C h (atype := .long) 2 rfl rfl rfl w_235 (a0 := (1708, .inr (.inl (fun _ => 0)))) (fun _ => rfl) (by decide) (N' := 1708) (by decide) (Nat.le_of_ble_eq_true rfl) (Nat.le_of_ble_eq_true rfl) (Nat.le_of_ble_eq_true rfl) dX11_init_134 (fun q_3208 H nq_3208 h => ?_)
  generalize ef_3209 : hu f_3190 q_3208 (.inl (G 2, 1708, .inr (.inl (fun _ => 0)))) = f_3209 at h
  have d_3211 : q_2728 ≠ q_3208 := (hne0 nq_3208 k_3191)
  have k_3210 : f_3209 q_2728 = some (.inl (G 0, 200, .inl (fun _ => 0))) := by rw [← ef_3209]; exact hu_at k_3191 d_3211
  have d_3213 : q_2739 ≠ q_3208 := (hne0 nq_3208 k_3192)
  have k_3212 : f_3209 q_2739 = some (.inl (G 1, 10, .inl (fun _ => 0))) := by rw [← ef_3209]; exact hu_at k_3192 d_3213
  have d_3215 : q_2753 ≠ q_3208 := (hne0 nq_3208 k_3193)
  have k_3214 : f_3209 q_2753 = some (.inl (G 1, 81, .inl (fun _ => 0))) := by rw [← ef_3209]; exact hu_at k_3193 d_3215
  have d_3217 : q_2770 ≠ q_3208 := (hne0 nq_3208 k_3194)
  have k_3216 : f_3209 q_2770 = some (.inl (G 1, 81, .inl (fun _ => 0))) := by rw [← ef_3209]; exact hu_at k_3194 d_3217
  have d_3219 : q_2790 ≠ q_3208 := (hne0 nq_3208 k_3195)
  have k_3218 : f_3209 q_2790 = some (.inl (G 1, 972, .inl (fun _ => 0))) := by rw [← ef_3209]; exact hu_at k_3195 d_3219
  have d_3221 : q_2813 ≠ q_3208 := (hne0 nq_3208 k_3196)
  have k_3220 : f_3209 q_2813 = some (.inl (G 1, 4, .inl (fun _ => 0))) := by rw [← ef_3209]; exact hu_at k_3196 d_3221
  have d_3223 : q_2839 ≠ q_3208 := (hne0 nq_3208 k_3197)
  have k_3222 : f_3209 q_2839 = some (.inl (G 2, 19600, .inr (.inl (fun _ => 0)))) := by rw [← ef_3209]; exact hu_at k_3197 d_3223
  have d_3225 : q_2868 ≠ q_3208 := (hne0 nq_3208 k_3198)
  have k_3224 : f_3209 q_2868 = some (.inl (G 2, 19600, .inr (.inl (fun _ => 0)))) := by rw [← ef_3209]; exact hu_at k_3198 d_3225
  have d_3227 : q_2900 ≠ q_3208 := (hne0 nq_3208 k_3199)
  have k_3226 : f_3209 q_2900 = some (.inl (G 1, 61, .inl (fun _ => 0))) := by rw [← ef_3209]; exact hu_at k_3199 d_3227
  have d_3229 : q_2935 ≠ q_3208 := (hne0 nq_3208 k_3200)
  have k_3228 : f_3209 q_2935 = some (.inl (G 1, 61, .inl (fun _ => 0))) := by rw [← ef_3209]; exact hu_at k_3200 d_3229
  have d_3231 : q_2973 ≠ q_3208 := (hne0 nq_3208 k_3201)
  have k_3230 : f_3209 q_2973 = some (.inl (G 2, 169, .inr (.inl (fun _ => 0)))) := by rw [← ef_3209]; exact hu_at k_3201 d_3231
  have d_3233 : q_3014 ≠ q_3208 := (hne0 nq_3208 k_3202)
  have k_3232 : f_3209 q_3014 = some (.inl (G 2, 19600, .inr (.inl (fun _ => 0)))) := by rw [← ef_3209]; exact hu_at k_3202 d_3233
  have d_3235 : q_3058 ≠ q_3208 := (hne0 nq_3208 k_3203)
  have k_3234 : f_3209 q_3058 = some (.inl (G 1, 41, .inl (fun _ => 0))) := by rw [← ef_3209]; exact hu_at k_3203 d_3235
  have d_3237 : q_3105 ≠ q_3208 := (hne0 nq_3208 k_3204)
  have k_3236 : f_3209 q_3105 = some (.inl (G 1, 41, .inl (fun _ => 0))) := by rw [← ef_3209]; exact hu_at k_3204 d_3237
  have d_3239 : q_3155 ≠ q_3208 := (hne0 nq_3208 k_3205)
  have k_3238 : f_3209 q_3155 = some (.inl (G 2, 1708, .inr (.inl (fun _ => 0)))) := by rw [← ef_3209]; exact hu_at k_3205 d_3239
  have d_3241 : x ≠ q_3208 := (hne0 nq_3208 k_3206)
  have k_3240 : f_3209 x = some (.inr (12, [.int 0, .ref q_2728, .int 0, .int 0, .int 0, .ref q_2739, .ref q_2753, .ref q_2770, .ref q_2790, .ref q_2813, .int 0, .int 0, .ref q_2839, .ref q_2868, .int 0, .ref q_2900, .ref q_2935, .ref q_2973, .long 0, .ref q_3014, .ref q_3058, .ref q_3105, .ref q_3155, .null, .null, .null, .null, .int 0, .int 0, .null, .null, .int 0])) := by rw [← ef_3209]; exact hu_at k_3206 d_3241
  have k_3242 : f_3209 q_3208 = some (.inl (G 2, 1708, .inr (.inl (fun _ => 0)))) := by rw [← ef_3209]; exact hu_self _ _ _
  have z_3244 : f q_3208 = none := ol_none o_3207 nq_3208 k_3206
  have o_3243 := ol_upn ef_3209 z_3244 o_3207
  refine q_put C h k_3240 flw_X11_57 (Or.inl hini) (v := .ref q_3208) rfl rfl (Nat.le_of_ble_eq_true rfl) dX11_init_136 (fun H locs h => ?_)
  have h : hw D b0 s.heap (hu f_3209 x (.inr (12, [.int 0, .ref q_2728, .int 0, .int 0, .int 0, .ref q_2739, .ref q_2753, .ref q_2770, .ref q_2790, .ref q_2813, .int 0, .int 0, .ref q_2839, .ref q_2868, .int 0, .ref q_2900, .ref q_2935, .ref q_2973, .long 0, .ref q_3014, .ref q_3058, .ref q_3105, .ref q_3155, .ref q_3208, .null, .null, .null, .int 0, .int 0, .null, .null, .int 0]))) H locs := h
  generalize ef_3245 : hu f_3209 x (.inr (12, [.int 0, .ref q_2728, .int 0, .int 0, .int 0, .ref q_2739, .ref q_2753, .ref q_2770, .ref q_2790, .ref q_2813, .int 0, .int 0, .ref q_2839, .ref q_2868, .int 0, .ref q_2900, .ref q_2935, .ref q_2973, .long 0, .ref q_3014, .ref q_3058, .ref q_3105, .ref q_3155, .ref q_3208, .null, .null, .null, .int 0, .int 0, .null, .null, .int 0])) = f_3245 at h
  have k_3246 : f_3245 q_2728 = some (.inl (G 0, 200, .inl (fun _ => 0))) := by rw [← ef_3245]; exact hu_at k_3210 (Ne.symm d_2731)
  have k_3247 : f_3245 q_2739 = some (.inl (G 1, 10, .inl (fun _ => 0))) := by rw [← ef_3245]; exact hu_at k_3212 (Ne.symm d_2744)
  have k_3248 : f_3245 q_2753 = some (.inl (G 1, 81, .inl (fun _ => 0))) := by rw [← ef_3245]; exact hu_at k_3214 (Ne.symm d_2760)
  have k_3249 : f_3245 q_2770 = some (.inl (G 1, 81, .inl (fun _ => 0))) := by rw [← ef_3245]; exact hu_at k_3216 (Ne.symm d_2779)
  have k_3250 : f_3245 q_2790 = some (.inl (G 1, 972, .inl (fun _ => 0))) := by rw [← ef_3245]; exact hu_at k_3218 (Ne.symm d_2801)
  have k_3251 : f_3245 q_2813 = some (.inl (G 1, 4, .inl (fun _ => 0))) := by rw [← ef_3245]; exact hu_at k_3220 (Ne.symm d_2826)
  have k_3252 : f_3245 q_2839 = some (.inl (G 2, 19600, .inr (.inl (fun _ => 0)))) := by rw [← ef_3245]; exact hu_at k_3222 (Ne.symm d_2854)
  have k_3253 : f_3245 q_2868 = some (.inl (G 2, 19600, .inr (.inl (fun _ => 0)))) := by rw [← ef_3245]; exact hu_at k_3224 (Ne.symm d_2885)
  have k_3254 : f_3245 q_2900 = some (.inl (G 1, 61, .inl (fun _ => 0))) := by rw [← ef_3245]; exact hu_at k_3226 (Ne.symm d_2919)
  have k_3255 : f_3245 q_2935 = some (.inl (G 1, 61, .inl (fun _ => 0))) := by rw [← ef_3245]; exact hu_at k_3228 (Ne.symm d_2956)
  have k_3256 : f_3245 q_2973 = some (.inl (G 2, 169, .inr (.inl (fun _ => 0)))) := by rw [← ef_3245]; exact hu_at k_3230 (Ne.symm d_2996)
  have k_3257 : f_3245 q_3014 = some (.inl (G 2, 19600, .inr (.inl (fun _ => 0)))) := by rw [← ef_3245]; exact hu_at k_3232 (Ne.symm d_3039)
  have k_3258 : f_3245 q_3058 = some (.inl (G 1, 41, .inl (fun _ => 0))) := by rw [← ef_3245]; exact hu_at k_3234 (Ne.symm d_3085)
  have k_3259 : f_3245 q_3105 = some (.inl (G 1, 41, .inl (fun _ => 0))) := by rw [← ef_3245]; exact hu_at k_3236 (Ne.symm d_3134)
  have k_3260 : f_3245 q_3155 = some (.inl (G 2, 1708, .inr (.inl (fun _ => 0)))) := by rw [← ef_3245]; exact hu_at k_3238 (Ne.symm d_3186)
  have k_3261 : f_3245 q_3208 = some (.inl (G 2, 1708, .inr (.inl (fun _ => 0)))) := by rw [← ef_3245]; exact hu_at k_3242 (Ne.symm d_3241)
  have k_3262 : f_3245 x = some (.inr (12, [.int 0, .ref q_2728, .int 0, .int 0, .int 0, .ref q_2739, .ref q_2753, .ref q_2770, .ref q_2790, .ref q_2813, .int 0, .int 0, .ref q_2839, .ref q_2868, .int 0, .ref q_2900, .ref q_2935, .ref q_2973, .long 0, .ref q_3014, .ref q_3058, .ref q_3105, .ref q_3155, .ref q_3208, .null, .null, .null, .int 0, .int 0, .null, .null, .int 0])) := by rw [← ef_3245]; exact hu_self _ _ _
  have o_3263 := ol_up ef_3245 o_3243
  refine lv_aload_n hx hb dX11_init_139 rfl (lv_at hl 0 rfl) ?_
  refine lv_sipush (v := 784) hx hb dX11_init_140 (by decide) ?_
  refine q_newa C h (atype := .long) 2 rfl rfl rfl w_235 (a0 := (784, .inr (.inl (fun _ => 0)))) (fun _ => rfl) (by decide) (N' := 784) (by decide) (Nat.le_of_ble_eq_true rfl) (Nat.le_of_ble_eq_true rfl) (Nat.le_of_ble_eq_true rfl) dX11_init_143 (fun q_3264 H nq_3264 h => ?_)
  generalize ef_3265 : hu f_3245 q_3264 (.inl (G 2, 784, .inr (.inl (fun _ => 0)))) = f_3265 at h
  have d_3267 : q_2728 ≠ q_3264 := (hne0 nq_3264 k_3246)
  have k_3266 : f_3265 q_2728 = some (.inl (G 0, 200, .inl (fun _ => 0))) := by rw [← ef_3265]; exact hu_at k_3246 d_3267
  have d_3269 : q_2739 ≠ q_3264 := (hne0 nq_3264 k_3247)
  have k_3268 : f_3265 q_2739 = some (.inl (G 1, 10, .inl (fun _ => 0))) := by rw [← ef_3265]; exact hu_at k_3247 d_3269
  have d_3271 : q_2753 ≠ q_3264 := (hne0 nq_3264 k_3248)
  have k_3270 : f_3265 q_2753 = some (.inl (G 1, 81, .inl (fun _ => 0))) := by rw [← ef_3265]; exact hu_at k_3248 d_3271
  have d_3273 : q_2770 ≠ q_3264 := (hne0 nq_3264 k_3249)
  have k_3272 : f_3265 q_2770 = some (.inl (G 1, 81, .inl (fun _ => 0))) := by rw [← ef_3265]; exact hu_at k_3249 d_3273
  have d_3275 : q_2790 ≠ q_3264 := (hne0 nq_3264 k_3250)
  have k_3274 : f_3265 q_2790 = some (.inl (G 1, 972, .inl (fun _ => 0))) := by rw [← ef_3265]; exact hu_at k_3250 d_3275
  have d_3277 : q_2813 ≠ q_3264 := (hne0 nq_3264 k_3251)
  have k_3276 : f_3265 q_2813 = some (.inl (G 1, 4, .inl (fun _ => 0))) := by rw [← ef_3265]; exact hu_at k_3251 d_3277
  have d_3279 : q_2839 ≠ q_3264 := (hne0 nq_3264 k_3252)
  have k_3278 : f_3265 q_2839 = some (.inl (G 2, 19600, .inr (.inl (fun _ => 0)))) := by rw [← ef_3265]; exact hu_at k_3252 d_3279
  have d_3281 : q_2868 ≠ q_3264 := (hne0 nq_3264 k_3253)
  have k_3280 : f_3265 q_2868 = some (.inl (G 2, 19600, .inr (.inl (fun _ => 0)))) := by rw [← ef_3265]; exact hu_at k_3253 d_3281
  have d_3283 : q_2900 ≠ q_3264 := (hne0 nq_3264 k_3254)
  have k_3282 : f_3265 q_2900 = some (.inl (G 1, 61, .inl (fun _ => 0))) := by rw [← ef_3265]; exact hu_at k_3254 d_3283
  have d_3285 : q_2935 ≠ q_3264 := (hne0 nq_3264 k_3255)
  have k_3284 : f_3265 q_2935 = some (.inl (G 1, 61, .inl (fun _ => 0))) := by rw [← ef_3265]; exact hu_at k_3255 d_3285
  have d_3287 : q_2973 ≠ q_3264 := (hne0 nq_3264 k_3256)
  have k_3286 : f_3265 q_2973 = some (.inl (G 2, 169, .inr (.inl (fun _ => 0)))) := by rw [← ef_3265]; exact hu_at k_3256 d_3287
  have d_3289 : q_3014 ≠ q_3264 := (hne0 nq_3264 k_3257)
  have k_3288 : f_3265 q_3014 = some (.inl (G 2, 19600, .inr (.inl (fun _ => 0)))) := by rw [← ef_3265]; exact hu_at k_3257 d_3289
  have d_3291 : q_3058 ≠ q_3264 := (hne0 nq_3264 k_3258)
  have k_3290 : f_3265 q_3058 = some (.inl (G 1, 41, .inl (fun _ => 0))) := by rw [← ef_3265]; exact hu_at k_3258 d_3291
  have d_3293 : q_3105 ≠ q_3264 := (hne0 nq_3264 k_3259)
  have k_3292 : f_3265 q_3105 = some (.inl (G 1, 41, .inl (fun _ => 0))) := by rw [← ef_3265]; exact hu_at k_3259 d_3293
  have d_3295 : q_3155 ≠ q_3264 := (hne0 nq_3264 k_3260)
  have k_3294 : f_3265 q_3155 = some (.inl (G 2, 1708, .inr (.inl (fun _ => 0)))) := by rw [← ef_3265]; exact hu_at k_3260 d_3295
  have d_3297 : q_3208 ≠ q_3264 := (hne0 nq_3264 k_3261)
  have k_3296 : f_3265 q_3208 = some (.inl (G 2, 1708, .inr (.inl (fun _ => 0)))) := by rw [← ef_3265]; exact hu_at k_3261 d_3297
  have d_3299 : x ≠ q_3264 := (hne0 nq_3264 k_3262)
  have k_3298 : f_3265 x = some (.inr (12, [.int 0, .ref q_2728, .int 0, .int 0, .int 0, .ref q_2739, .ref q_2753, .ref q_2770, .ref q_2790, .ref q_2813, .int 0, .int 0, .ref q_2839, .ref q_2868, .int 0, .ref q_2900, .ref q_2935, .ref q_2973, .long 0, .ref q_3014, .ref q_3058, .ref q_3105, .ref q_3155, .ref q_3208, .null, .null, .null, .int 0, .int 0, .null, .null, .int 0])) := by rw [← ef_3265]; exact hu_at k_3262 d_3299
  have k_3300 : f_3265 q_3264 = some (.inl (G 2, 784, .inr (.inl (fun _ => 0)))) := by rw [← ef_3265]; exact hu_self _ _ _
  have z_3302 : f q_3264 = none := ol_none o_3263 nq_3264 k_3262
  have o_3301 := ol_upn ef_3265 z_3302 o_3263
  refine q_put C h k_3298 flw_X11_60 (Or.inl hini) (v := .ref q_3264) rfl rfl (Nat.le_of_ble_eq_true rfl) dX11_init_145 (fun H locs h => ?_)
  have h : hw D b0 s.heap (hu f_3265 x (.inr (12, [.int 0, .ref q_2728, .int 0, .int 0, .int 0, .ref q_2739, .ref q_2753, .ref q_2770, .ref q_2790, .ref q_2813, .int 0, .int 0, .ref q_2839, .ref q_2868, .int 0, .ref q_2900, .ref q_2935, .ref q_2973, .long 0, .ref q_3014, .ref q_3058, .ref q_3105, .ref q_3155, .ref q_3208, .ref q_3264, .null, .null, .int 0, .int 0, .null, .null, .int 0]))) H locs := h
  generalize ef_3303 : hu f_3265 x (.inr (12, [.int 0, .ref q_2728, .int 0, .int 0, .int 0, .ref q_2739, .ref q_2753, .ref q_2770, .ref q_2790, .ref q_2813, .int 0, .int 0, .ref q_2839, .ref q_2868, .int 0, .ref q_2900, .ref q_2935, .ref q_2973, .long 0, .ref q_3014, .ref q_3058, .ref q_3105, .ref q_3155, .ref q_3208, .ref q_3264, .null, .null, .int 0, .int 0, .null, .null, .int 0])) = f_3303 at h
  have k_3304 : f_3303 q_2728 = some (.inl (G 0, 200, .inl (fun _ => 0))) := by rw [← ef_3303]; exact hu_at k_3266 (Ne.symm d_2731)
  have k_3305 : f_3303 q_2739 = some (.inl (G 1, 10, .inl (fun _ => 0))) := by rw [← ef_3303]; exact hu_at k_3268 (Ne.symm d_2744)
  have k_3306 : f_3303 q_2753 = some (.inl (G 1, 81, .inl (fun _ => 0))) := by rw [← ef_3303]; exact hu_at k_3270 (Ne.symm d_2760)
  have k_3307 : f_3303 q_2770 = some (.inl (G 1, 81, .inl (fun _ => 0))) := by rw [← ef_3303]; exact hu_at k_3272 (Ne.symm d_2779)
  have k_3308 : f_3303 q_2790 = some (.inl (G 1, 972, .inl (fun _ => 0))) := by rw [← ef_3303]; exact hu_at k_3274 (Ne.symm d_2801)
  have k_3309 : f_3303 q_2813 = some (.inl (G 1, 4, .inl (fun _ => 0))) := by rw [← ef_3303]; exact hu_at k_3276 (Ne.symm d_2826)
  have k_3310 : f_3303 q_2839 = some (.inl (G 2, 19600, .inr (.inl (fun _ => 0)))) := by rw [← ef_3303]; exact hu_at k_3278 (Ne.symm d_2854)
  have k_3311 : f_3303 q_2868 = some (.inl (G 2, 19600, .inr (.inl (fun _ => 0)))) := by rw [← ef_3303]; exact hu_at k_3280 (Ne.symm d_2885)
  have k_3312 : f_3303 q_2900 = some (.inl (G 1, 61, .inl (fun _ => 0))) := by rw [← ef_3303]; exact hu_at k_3282 (Ne.symm d_2919)
  have k_3313 : f_3303 q_2935 = some (.inl (G 1, 61, .inl (fun _ => 0))) := by rw [← ef_3303]; exact hu_at k_3284 (Ne.symm d_2956)
  have k_3314 : f_3303 q_2973 = some (.inl (G 2, 169, .inr (.inl (fun _ => 0)))) := by rw [← ef_3303]; exact hu_at k_3286 (Ne.symm d_2996)
  have k_3315 : f_3303 q_3014 = some (.inl (G 2, 19600, .inr (.inl (fun _ => 0)))) := by rw [← ef_3303]; exact hu_at k_3288 (Ne.symm d_3039)
  have k_3316 : f_3303 q_3058 = some (.inl (G 1, 41, .inl (fun _ => 0))) := by rw [← ef_3303]; exact hu_at k_3290 (Ne.symm d_3085)
  have k_3317 : f_3303 q_3105 = some (.inl (G 1, 41, .inl (fun _ => 0))) := by rw [← ef_3303]; exact hu_at k_3292 (Ne.symm d_3134)
  have k_3318 : f_3303 q_3155 = some (.inl (G 2, 1708, .inr (.inl (fun _ => 0)))) := by rw [← ef_3303]; exact hu_at k_3294 (Ne.symm d_3186)
  have k_3319 : f_3303 q_3208 = some (.inl (G 2, 1708, .inr (.inl (fun _ => 0)))) := by rw [← ef_3303]; exact hu_at k_3296 (Ne.symm d_3241)
  have k_3320 : f_3303 q_3264 = some (.inl (G 2, 784, .inr (.inl (fun _ => 0)))) := by rw [← ef_3303]; exact hu_at k_3300 (Ne.symm d_3299)
  have k_3321 : f_3303 x = some (.inr (12, [.int 0, .ref q_2728, .int 0, .int 0, .int 0, .ref q_2739, .ref q_2753, .ref q_2770, .ref q_2790, .ref q_2813, .int 0, .int 0, .ref q_2839, .ref q_2868, .int 0, .ref q_2900, .ref q_2935, .ref q_2973, .long 0, .ref q_3014, .ref q_3058, .ref q_3105, .ref q_3155, .ref q_3208, .ref q_3264, .null, .null, .int 0, .int 0, .null, .null, .int 0])) := by rw [← ef_3303]; exact hu_self _ _ _
  have o_3322 := ol_up ef_3303 o_3301
  refine lv_aload_n hx hb dX11_init_148 rfl (lv_at hl 0 rfl) ?_
  refine lv_bipush (v := 28) hx hb dX11_init_149 (by decide) ?_
  refine q_newa C h (atype := .long) 2 rfl rfl rfl w_235 (a0 := (28, .inr (.inl (fun _ => 0)))) (fun _ => rfl) (by decide) (N' := 28) (by decide) (Nat.le_of_ble_eq_true rfl) (Nat.le_of_ble_eq_true rfl) (Nat.le_of_ble_eq_true rfl) dX11_init_151 (fun q_3323 H nq_3323 h => ?_)
  generalize ef_3324 : hu f_3303 q_3323 (.inl (G 2, 28, .inr (.inl (fun _ => 0)))) = f_3324 at h
  have d_3326 : q_2728 ≠ q_3323 := (hne0 nq_3323 k_3304)
  have k_3325 : f_3324 q_2728 = some (.inl (G 0, 200, .inl (fun _ => 0))) := by rw [← ef_3324]; exact hu_at k_3304 d_3326
  have d_3328 : q_2739 ≠ q_3323 := (hne0 nq_3323 k_3305)
  have k_3327 : f_3324 q_2739 = some (.inl (G 1, 10, .inl (fun _ => 0))) := by rw [← ef_3324]; exact hu_at k_3305 d_3328
  have d_3330 : q_2753 ≠ q_3323 := (hne0 nq_3323 k_3306)
  have k_3329 : f_3324 q_2753 = some (.inl (G 1, 81, .inl (fun _ => 0))) := by rw [← ef_3324]; exact hu_at k_3306 d_3330
  have d_3332 : q_2770 ≠ q_3323 := (hne0 nq_3323 k_3307)
  have k_3331 : f_3324 q_2770 = some (.inl (G 1, 81, .inl (fun _ => 0))) := by rw [← ef_3324]; exact hu_at k_3307 d_3332
  have d_3334 : q_2790 ≠ q_3323 := (hne0 nq_3323 k_3308)
  have k_3333 : f_3324 q_2790 = some (.inl (G 1, 972, .inl (fun _ => 0))) := by rw [← ef_3324]; exact hu_at k_3308 d_3334
  have d_3336 : q_2813 ≠ q_3323 := (hne0 nq_3323 k_3309)
  have k_3335 : f_3324 q_2813 = some (.inl (G 1, 4, .inl (fun _ => 0))) := by rw [← ef_3324]; exact hu_at k_3309 d_3336
  have d_3338 : q_2839 ≠ q_3323 := (hne0 nq_3323 k_3310)
  have k_3337 : f_3324 q_2839 = some (.inl (G 2, 19600, .inr (.inl (fun _ => 0)))) := by rw [← ef_3324]; exact hu_at k_3310 d_3338
  have d_3340 : q_2868 ≠ q_3323 := (hne0 nq_3323 k_3311)
  have k_3339 : f_3324 q_2868 = some (.inl (G 2, 19600, .inr (.inl (fun _ => 0)))) := by rw [← ef_3324]; exact hu_at k_3311 d_3340
  have d_3342 : q_2900 ≠ q_3323 := (hne0 nq_3323 k_3312)
  have k_3341 : f_3324 q_2900 = some (.inl (G 1, 61, .inl (fun _ => 0))) := by rw [← ef_3324]; exact hu_at k_3312 d_3342
  have d_3344 : q_2935 ≠ q_3323 := (hne0 nq_3323 k_3313)
  have k_3343 : f_3324 q_2935 = some (.inl (G 1, 61, .inl (fun _ => 0))) := by rw [← ef_3324]; exact hu_at k_3313 d_3344
  have d_3346 : q_2973 ≠ q_3323 := (hne0 nq_3323 k_3314)
  have k_3345 : f_3324 q_2973 = some (.inl (G 2, 169, .inr (.inl (fun _ => 0)))) := by rw [← ef_3324]; exact hu_at k_3314 d_3346
  have d_3348 : q_3014 ≠ q_3323 := (hne0 nq_3323 k_3315)
  have k_3347 : f_3324 q_3014 = some (.inl (G 2, 19600, .inr (.inl (fun _ => 0)))) := by rw [← ef_3324]; exact hu_at k_3315 d_3348
  have d_3350 : q_3058 ≠ q_3323 := (hne0 nq_3323 k_3316)
  have k_3349 : f_3324 q_3058 = some (.inl (G 1, 41, .inl (fun _ => 0))) := by rw [← ef_3324]; exact hu_at k_3316 d_3350
  have d_3352 : q_3105 ≠ q_3323 := (hne0 nq_3323 k_3317)
  have k_3351 : f_3324 q_3105 = some (.inl (G 1, 41, .inl (fun _ => 0))) := by rw [← ef_3324]; exact hu_at k_3317 d_3352
  have d_3354 : q_3155 ≠ q_3323 := (hne0 nq_3323 k_3318)
  have k_3353 : f_3324 q_3155 = some (.inl (G 2, 1708, .inr (.inl (fun _ => 0)))) := by rw [← ef_3324]; exact hu_at k_3318 d_3354
  have d_3356 : q_3208 ≠ q_3323 := (hne0 nq_3323 k_3319)
  have k_3355 : f_3324 q_3208 = some (.inl (G 2, 1708, .inr (.inl (fun _ => 0)))) := by rw [← ef_3324]; exact hu_at k_3319 d_3356
  have d_3358 : q_3264 ≠ q_3323 := (hne0 nq_3323 k_3320)
  have k_3357 : f_3324 q_3264 = some (.inl (G 2, 784, .inr (.inl (fun _ => 0)))) := by rw [← ef_3324]; exact hu_at k_3320 d_3358
  have d_3360 : x ≠ q_3323 := (hne0 nq_3323 k_3321)
  have k_3359 : f_3324 x = some (.inr (12, [.int 0, .ref q_2728, .int 0, .int 0, .int 0, .ref q_2739, .ref q_2753, .ref q_2770, .ref q_2790, .ref q_2813, .int 0, .int 0, .ref q_2839, .ref q_2868, .int 0, .ref q_2900, .ref q_2935, .ref q_2973, .long 0, .ref q_3014, .ref q_3058, .ref q_3105, .ref q_3155, .ref q_3208, .ref q_3264, .null, .null, .int 0, .int 0, .null, .null, .int 0])) := by rw [← ef_3324]; exact hu_at k_3321 d_3360
  have k_3361 : f_3324 q_3323 = some (.inl (G 2, 28, .inr (.inl (fun _ => 0)))) := by rw [← ef_3324]; exact hu_self _ _ _
  have z_3363 : f q_3323 = none := ol_none o_3322 nq_3323 k_3321
  have o_3362 := ol_upn ef_3324 z_3363 o_3322
  refine q_put C h k_3359 flw_X11_63 (Or.inl hini) (v := .ref q_3323) rfl rfl (Nat.le_of_ble_eq_true rfl) dX11_init_153 (fun H locs h => ?_)
  have h : hw D b0 s.heap (hu f_3324 x (.inr (12, [.int 0, .ref q_2728, .int 0, .int 0, .int 0, .ref q_2739, .ref q_2753, .ref q_2770, .ref q_2790, .ref q_2813, .int 0, .int 0, .ref q_2839, .ref q_2868, .int 0, .ref q_2900, .ref q_2935, .ref q_2973, .long 0, .ref q_3014, .ref q_3058, .ref q_3105, .ref q_3155, .ref q_3208, .ref q_3264, .ref q_3323, .null, .int 0, .int 0, .null, .null, .int 0]))) H locs := h
  generalize ef_3364 : hu f_3324 x (.inr (12, [.int 0, .ref q_2728, .int 0, .int 0, .int 0, .ref q_2739, .ref q_2753, .ref q_2770, .ref q_2790, .ref q_2813, .int 0, .int 0, .ref q_2839, .ref q_2868, .int 0, .ref q_2900, .ref q_2935, .ref q_2973, .long 0, .ref q_3014, .ref q_3058, .ref q_3105, .ref q_3155, .ref q_3208, .ref q_3264, .ref q_3323, .null, .int 0, .int 0, .null, .null, .int 0])) = f_3364 at h
  have k_3365 : f_3364 q_2728 = some (.inl (G 0, 200, .inl (fun _ => 0))) := by rw [← ef_3364]; exact hu_at k_3325 (Ne.symm d_2731)
  have k_3366 : f_3364 q_2739 = some (.inl (G 1, 10, .inl (fun _ => 0))) := by rw [← ef_3364]; exact hu_at k_3327 (Ne.symm d_2744)
  have k_3367 : f_3364 q_2753 = some (.inl (G 1, 81, .inl (fun _ => 0))) := by rw [← ef_3364]; exact hu_at k_3329 (Ne.symm d_2760)
  have k_3368 : f_3364 q_2770 = some (.inl (G 1, 81, .inl (fun _ => 0))) := by rw [← ef_3364]; exact hu_at k_3331 (Ne.symm d_2779)
  have k_3369 : f_3364 q_2790 = some (.inl (G 1, 972, .inl (fun _ => 0))) := by rw [← ef_3364]; exact hu_at k_3333 (Ne.symm d_2801)
  have k_3370 : f_3364 q_2813 = some (.inl (G 1, 4, .inl (fun _ => 0))) := by rw [← ef_3364]; exact hu_at k_3335 (Ne.symm d_2826)
  have k_3371 : f_3364 q_2839 = some (.inl (G 2, 19600, .inr (.inl (fun _ => 0)))) := by rw [← ef_3364]; exact hu_at k_3337 (Ne.symm d_2854)
  have k_3372 : f_3364 q_2868 = some (.inl (G 2, 19600, .inr (.inl (fun _ => 0)))) := by rw [← ef_3364]; exact hu_at k_3339 (Ne.symm d_2885)
  have k_3373 : f_3364 q_2900 = some (.inl (G 1, 61, .inl (fun _ => 0))) := by rw [← ef_3364]; exact hu_at k_3341 (Ne.symm d_2919)
  have k_3374 : f_3364 q_2935 = some (.inl (G 1, 61, .inl (fun _ => 0))) := by rw [← ef_3364]; exact hu_at k_3343 (Ne.symm d_2956)
  have k_3375 : f_3364 q_2973 = some (.inl (G 2, 169, .inr (.inl (fun _ => 0)))) := by rw [← ef_3364]; exact hu_at k_3345 (Ne.symm d_2996)
  have k_3376 : f_3364 q_3014 = some (.inl (G 2, 19600, .inr (.inl (fun _ => 0)))) := by rw [← ef_3364]; exact hu_at k_3347 (Ne.symm d_3039)
  have k_3377 : f_3364 q_3058 = some (.inl (G 1, 41, .inl (fun _ => 0))) := by rw [← ef_3364]; exact hu_at k_3349 (Ne.symm d_3085)
  have k_3378 : f_3364 q_3105 = some (.inl (G 1, 41, .inl (fun _ => 0))) := by rw [← ef_3364]; exact hu_at k_3351 (Ne.symm d_3134)
  have k_3379 : f_3364 q_3155 = some (.inl (G 2, 1708, .inr (.inl (fun _ => 0)))) := by rw [← ef_3364]; exact hu_at k_3353 (Ne.symm d_3186)
  have k_3380 : f_3364 q_3208 = some (.inl (G 2, 1708, .inr (.inl (fun _ => 0)))) := by rw [← ef_3364]; exact hu_at k_3355 (Ne.symm d_3241)
  have k_3381 : f_3364 q_3264 = some (.inl (G 2, 784, .inr (.inl (fun _ => 0)))) := by rw [← ef_3364]; exact hu_at k_3357 (Ne.symm d_3299)
  have k_3382 : f_3364 q_3323 = some (.inl (G 2, 28, .inr (.inl (fun _ => 0)))) := by rw [← ef_3364]; exact hu_at k_3361 (Ne.symm d_3360)
  have k_3383 : f_3364 x = some (.inr (12, [.int 0, .ref q_2728, .int 0, .int 0, .int 0, .ref q_2739, .ref q_2753, .ref q_2770, .ref q_2790, .ref q_2813, .int 0, .int 0, .ref q_2839, .ref q_2868, .int 0, .ref q_2900, .ref q_2935, .ref q_2973, .long 0, .ref q_3014, .ref q_3058, .ref q_3105, .ref q_3155, .ref q_3208, .ref q_3264, .ref q_3323, .null, .int 0, .int 0, .null, .null, .int 0])) := by rw [← ef_3364]; exact hu_self _ _ _
  have o_3384 := ol_up ef_3364 o_3362
  refine lv_aload_n hx hb dX11_init_156 rfl (lv_at hl 0 rfl) ?_
  refine lv_bipush (v := 28) hx hb dX11_init_157 (by decide) ?_
  refine q_newa C h (atype := .int) 1 rfl rfl rfl w_161 (a0 := (28, .inl (fun _ => 0))) (fun _ => rfl) (by decide) (N' := 28) (by decide) (Nat.le_of_ble_eq_true rfl) (Nat.le_of_ble_eq_true rfl) (Nat.le_of_ble_eq_true rfl) dX11_init_159 (fun q_3385 H nq_3385 h => ?_)
  generalize ef_3386 : hu f_3364 q_3385 (.inl (G 1, 28, .inl (fun _ => 0))) = f_3386 at h
  have d_3388 : q_2728 ≠ q_3385 := (hne0 nq_3385 k_3365)
  have k_3387 : f_3386 q_2728 = some (.inl (G 0, 200, .inl (fun _ => 0))) := by rw [← ef_3386]; exact hu_at k_3365 d_3388
  have d_3390 : q_2739 ≠ q_3385 := (hne0 nq_3385 k_3366)
  have k_3389 : f_3386 q_2739 = some (.inl (G 1, 10, .inl (fun _ => 0))) := by rw [← ef_3386]; exact hu_at k_3366 d_3390
  have d_3392 : q_2753 ≠ q_3385 := (hne0 nq_3385 k_3367)
  have k_3391 : f_3386 q_2753 = some (.inl (G 1, 81, .inl (fun _ => 0))) := by rw [← ef_3386]; exact hu_at k_3367 d_3392
  have d_3394 : q_2770 ≠ q_3385 := (hne0 nq_3385 k_3368)
  have k_3393 : f_3386 q_2770 = some (.inl (G 1, 81, .inl (fun _ => 0))) := by rw [← ef_3386]; exact hu_at k_3368 d_3394
  have d_3396 : q_2790 ≠ q_3385 := (hne0 nq_3385 k_3369)
  have k_3395 : f_3386 q_2790 = some (.inl (G 1, 972, .inl (fun _ => 0))) := by rw [← ef_3386]; exact hu_at k_3369 d_3396
  have d_3398 : q_2813 ≠ q_3385 := (hne0 nq_3385 k_3370)
  have k_3397 : f_3386 q_2813 = some (.inl (G 1, 4, .inl (fun _ => 0))) := by rw [← ef_3386]; exact hu_at k_3370 d_3398
  have d_3400 : q_2839 ≠ q_3385 := (hne0 nq_3385 k_3371)
  have k_3399 : f_3386 q_2839 = some (.inl (G 2, 19600, .inr (.inl (fun _ => 0)))) := by rw [← ef_3386]; exact hu_at k_3371 d_3400
  have d_3402 : q_2868 ≠ q_3385 := (hne0 nq_3385 k_3372)
  have k_3401 : f_3386 q_2868 = some (.inl (G 2, 19600, .inr (.inl (fun _ => 0)))) := by rw [← ef_3386]; exact hu_at k_3372 d_3402
  have d_3404 : q_2900 ≠ q_3385 := (hne0 nq_3385 k_3373)
  have k_3403 : f_3386 q_2900 = some (.inl (G 1, 61, .inl (fun _ => 0))) := by rw [← ef_3386]; exact hu_at k_3373 d_3404
  have d_3406 : q_2935 ≠ q_3385 := (hne0 nq_3385 k_3374)
  have k_3405 : f_3386 q_2935 = some (.inl (G 1, 61, .inl (fun _ => 0))) := by rw [← ef_3386]; exact hu_at k_3374 d_3406
  have d_3408 : q_2973 ≠ q_3385 := (hne0 nq_3385 k_3375)
  have k_3407 : f_3386 q_2973 = some (.inl (G 2, 169, .inr (.inl (fun _ => 0)))) := by rw [← ef_3386]; exact hu_at k_3375 d_3408
  have d_3410 : q_3014 ≠ q_3385 := (hne0 nq_3385 k_3376)
  have k_3409 : f_3386 q_3014 = some (.inl (G 2, 19600, .inr (.inl (fun _ => 0)))) := by rw [← ef_3386]; exact hu_at k_3376 d_3410
  have d_3412 : q_3058 ≠ q_3385 := (hne0 nq_3385 k_3377)
  have k_3411 : f_3386 q_3058 = some (.inl (G 1, 41, .inl (fun _ => 0))) := by rw [← ef_3386]; exact hu_at k_3377 d_3412
  have d_3414 : q_3105 ≠ q_3385 := (hne0 nq_3385 k_3378)
  have k_3413 : f_3386 q_3105 = some (.inl (G 1, 41, .inl (fun _ => 0))) := by rw [← ef_3386]; exact hu_at k_3378 d_3414
  have d_3416 : q_3155 ≠ q_3385 := (hne0 nq_3385 k_3379)
  have k_3415 : f_3386 q_3155 = some (.inl (G 2, 1708, .inr (.inl (fun _ => 0)))) := by rw [← ef_3386]; exact hu_at k_3379 d_3416
  have d_3418 : q_3208 ≠ q_3385 := (hne0 nq_3385 k_3380)
  have k_3417 : f_3386 q_3208 = some (.inl (G 2, 1708, .inr (.inl (fun _ => 0)))) := by rw [← ef_3386]; exact hu_at k_3380 d_3418
  have d_3420 : q_3264 ≠ q_3385 := (hne0 nq_3385 k_3381)
  have k_3419 : f_3386 q_3264 = some (.inl (G 2, 784, .inr (.inl (fun _ => 0)))) := by rw [← ef_3386]; exact hu_at k_3381 d_3420
  have d_3422 : q_3323 ≠ q_3385 := (hne0 nq_3385 k_3382)
  have k_3421 : f_3386 q_3323 = some (.inl (G 2, 28, .inr (.inl (fun _ => 0)))) := by rw [← ef_3386]; exact hu_at k_3382 d_3422
  have d_3424 : x ≠ q_3385 := (hne0 nq_3385 k_3383)
  have k_3423 : f_3386 x = some (.inr (12, [.int 0, .ref q_2728, .int 0, .int 0, .int 0, .ref q_2739, .ref q_2753, .ref q_2770, .ref q_2790, .ref q_2813, .int 0, .int 0, .ref q_2839, .ref q_2868, .int 0, .ref q_2900, .ref q_2935, .ref q_2973, .long 0, .ref q_3014, .ref q_3058, .ref q_3105, .ref q_3155, .ref q_3208, .ref q_3264, .ref q_3323, .null, .int 0, .int 0, .null, .null, .int 0])) := by rw [← ef_3386]; exact hu_at k_3383 d_3424
  have k_3425 : f_3386 q_3385 = some (.inl (G 1, 28, .inl (fun _ => 0))) := by rw [← ef_3386]; exact hu_self _ _ _
  have z_3427 : f q_3385 = none := ol_none o_3384 nq_3385 k_3383
  have o_3426 := ol_upn ef_3386 z_3427 o_3384
  refine q_put C h k_3423 flw_X11_66 (Or.inl hini) (v := .ref q_3385) rfl rfl (Nat.le_of_ble_eq_true rfl) dX11_init_161 (fun H locs h => ?_)
  have h : hw D b0 s.heap (hu f_3386 x (.inr (12, [.int 0, .ref q_2728, .int 0, .int 0, .int 0, .ref q_2739, .ref q_2753, .ref q_2770, .ref q_2790, .ref q_2813, .int 0, .int 0, .ref q_2839, .ref q_2868, .int 0, .ref q_2900, .ref q_2935, .ref q_2973, .long 0, .ref q_3014, .ref q_3058, .ref q_3105, .ref q_3155, .ref q_3208, .ref q_3264, .ref q_3323, .ref q_3385, .int 0, .int 0, .null, .null, .int 0]))) H locs := h
  generalize ef_3428 : hu f_3386 x (.inr (12, [.int 0, .ref q_2728, .int 0, .int 0, .int 0, .ref q_2739, .ref q_2753, .ref q_2770, .ref q_2790, .ref q_2813, .int 0, .int 0, .ref q_2839, .ref q_2868, .int 0, .ref q_2900, .ref q_2935, .ref q_2973, .long 0, .ref q_3014, .ref q_3058, .ref q_3105, .ref q_3155, .ref q_3208, .ref q_3264, .ref q_3323, .ref q_3385, .int 0, .int 0, .null, .null, .int 0])) = f_3428 at h
  have k_3429 : f_3428 q_2728 = some (.inl (G 0, 200, .inl (fun _ => 0))) := by rw [← ef_3428]; exact hu_at k_3387 (Ne.symm d_2731)
  have k_3430 : f_3428 q_2739 = some (.inl (G 1, 10, .inl (fun _ => 0))) := by rw [← ef_3428]; exact hu_at k_3389 (Ne.symm d_2744)
  have k_3431 : f_3428 q_2753 = some (.inl (G 1, 81, .inl (fun _ => 0))) := by rw [← ef_3428]; exact hu_at k_3391 (Ne.symm d_2760)
  have k_3432 : f_3428 q_2770 = some (.inl (G 1, 81, .inl (fun _ => 0))) := by rw [← ef_3428]; exact hu_at k_3393 (Ne.symm d_2779)
  have k_3433 : f_3428 q_2790 = some (.inl (G 1, 972, .inl (fun _ => 0))) := by rw [← ef_3428]; exact hu_at k_3395 (Ne.symm d_2801)
  have k_3434 : f_3428 q_2813 = some (.inl (G 1, 4, .inl (fun _ => 0))) := by rw [← ef_3428]; exact hu_at k_3397 (Ne.symm d_2826)
  have k_3435 : f_3428 q_2839 = some (.inl (G 2, 19600, .inr (.inl (fun _ => 0)))) := by rw [← ef_3428]; exact hu_at k_3399 (Ne.symm d_2854)
  have k_3436 : f_3428 q_2868 = some (.inl (G 2, 19600, .inr (.inl (fun _ => 0)))) := by rw [← ef_3428]; exact hu_at k_3401 (Ne.symm d_2885)
  have k_3437 : f_3428 q_2900 = some (.inl (G 1, 61, .inl (fun _ => 0))) := by rw [← ef_3428]; exact hu_at k_3403 (Ne.symm d_2919)
  have k_3438 : f_3428 q_2935 = some (.inl (G 1, 61, .inl (fun _ => 0))) := by rw [← ef_3428]; exact hu_at k_3405 (Ne.symm d_2956)
  have k_3439 : f_3428 q_2973 = some (.inl (G 2, 169, .inr (.inl (fun _ => 0)))) := by rw [← ef_3428]; exact hu_at k_3407 (Ne.symm d_2996)
  have k_3440 : f_3428 q_3014 = some (.inl (G 2, 19600, .inr (.inl (fun _ => 0)))) := by rw [← ef_3428]; exact hu_at k_3409 (Ne.symm d_3039)
  have k_3441 : f_3428 q_3058 = some (.inl (G 1, 41, .inl (fun _ => 0))) := by rw [← ef_3428]; exact hu_at k_3411 (Ne.symm d_3085)
  have k_3442 : f_3428 q_3105 = some (.inl (G 1, 41, .inl (fun _ => 0))) := by rw [← ef_3428]; exact hu_at k_3413 (Ne.symm d_3134)
  have k_3443 : f_3428 q_3155 = some (.inl (G 2, 1708, .inr (.inl (fun _ => 0)))) := by rw [← ef_3428]; exact hu_at k_3415 (Ne.symm d_3186)
  have k_3444 : f_3428 q_3208 = some (.inl (G 2, 1708, .inr (.inl (fun _ => 0)))) := by rw [← ef_3428]; exact hu_at k_3417 (Ne.symm d_3241)
  have k_3445 : f_3428 q_3264 = some (.inl (G 2, 784, .inr (.inl (fun _ => 0)))) := by rw [← ef_3428]; exact hu_at k_3419 (Ne.symm d_3299)
  have k_3446 : f_3428 q_3323 = some (.inl (G 2, 28, .inr (.inl (fun _ => 0)))) := by rw [← ef_3428]; exact hu_at k_3421 (Ne.symm d_3360)
  have k_3447 : f_3428 q_3385 = some (.inl (G 1, 28, .inl (fun _ => 0))) := by rw [← ef_3428]; exact hu_at k_3425 (Ne.symm d_3424)
  have k_3448 : f_3428 x = some (.inr (12, [.int 0, .ref q_2728, .int 0, .int 0, .int 0, .ref q_2739, .ref q_2753, .ref q_2770, .ref q_2790, .ref q_2813, .int 0, .int 0, .ref q_2839, .ref q_2868, .int 0, .ref q_2900, .ref q_2935, .ref q_2973, .long 0, .ref q_3014, .ref q_3058, .ref q_3105, .ref q_3155, .ref q_3208, .ref q_3264, .ref q_3323, .ref q_3385, .int 0, .int 0, .null, .null, .int 0])) := by rw [← ef_3428]; exact hu_self _ _ _
  have o_3449 := ol_up ef_3428 o_3426
  refine lv_aload_n hx hb dX11_init_164 rfl (lv_at hl 0 rfl) ?_
  refine lv_sipush (v := 244) hx hb dX11_init_165 (by decide) ?_
  refine q_newa C h (atype := .long) 2 rfl rfl rfl w_235 (a0 := (244, .inr (.inl (fun _ => 0)))) (fun _ => rfl) (by decide) (N' := 244) (by decide) (Nat.le_of_ble_eq_true rfl) (Nat.le_of_ble_eq_true rfl) (Nat.le_of_ble_eq_true rfl) dX11_init_168 (fun q_3450 H nq_3450 h => ?_)
  generalize ef_3451 : hu f_3428 q_3450 (.inl (G 2, 244, .inr (.inl (fun _ => 0)))) = f_3451 at h
  have d_3453 : q_2728 ≠ q_3450 := (hne0 nq_3450 k_3429)
  have k_3452 : f_3451 q_2728 = some (.inl (G 0, 200, .inl (fun _ => 0))) := by rw [← ef_3451]; exact hu_at k_3429 d_3453
  have d_3455 : q_2739 ≠ q_3450 := (hne0 nq_3450 k_3430)
  have k_3454 : f_3451 q_2739 = some (.inl (G 1, 10, .inl (fun _ => 0))) := by rw [← ef_3451]; exact hu_at k_3430 d_3455
  have d_3457 : q_2753 ≠ q_3450 := (hne0 nq_3450 k_3431)
  have k_3456 : f_3451 q_2753 = some (.inl (G 1, 81, .inl (fun _ => 0))) := by rw [← ef_3451]; exact hu_at k_3431 d_3457
  have d_3459 : q_2770 ≠ q_3450 := (hne0 nq_3450 k_3432)
  have k_3458 : f_3451 q_2770 = some (.inl (G 1, 81, .inl (fun _ => 0))) := by rw [← ef_3451]; exact hu_at k_3432 d_3459
  have d_3461 : q_2790 ≠ q_3450 := (hne0 nq_3450 k_3433)
  have k_3460 : f_3451 q_2790 = some (.inl (G 1, 972, .inl (fun _ => 0))) := by rw [← ef_3451]; exact hu_at k_3433 d_3461
  have d_3463 : q_2813 ≠ q_3450 := (hne0 nq_3450 k_3434)
  have k_3462 : f_3451 q_2813 = some (.inl (G 1, 4, .inl (fun _ => 0))) := by rw [← ef_3451]; exact hu_at k_3434 d_3463
  have d_3465 : q_2839 ≠ q_3450 := (hne0 nq_3450 k_3435)
  have k_3464 : f_3451 q_2839 = some (.inl (G 2, 19600, .inr (.inl (fun _ => 0)))) := by rw [← ef_3451]; exact hu_at k_3435 d_3465
  have d_3467 : q_2868 ≠ q_3450 := (hne0 nq_3450 k_3436)
  have k_3466 : f_3451 q_2868 = some (.inl (G 2, 19600, .inr (.inl (fun _ => 0)))) := by rw [← ef_3451]; exact hu_at k_3436 d_3467
  have d_3469 : q_2900 ≠ q_3450 := (hne0 nq_3450 k_3437)
  have k_3468 : f_3451 q_2900 = some (.inl (G 1, 61, .inl (fun _ => 0))) := by rw [← ef_3451]; exact hu_at k_3437 d_3469
  have d_3471 : q_2935 ≠ q_3450 := (hne0 nq_3450 k_3438)
  have k_3470 : f_3451 q_2935 = some (.inl (G 1, 61, .inl (fun _ => 0))) := by rw [← ef_3451]; exact hu_at k_3438 d_3471
  have d_3473 : q_2973 ≠ q_3450 := (hne0 nq_3450 k_3439)
  have k_3472 : f_3451 q_2973 = some (.inl (G 2, 169, .inr (.inl (fun _ => 0)))) := by rw [← ef_3451]; exact hu_at k_3439 d_3473
  have d_3475 : q_3014 ≠ q_3450 := (hne0 nq_3450 k_3440)
  have k_3474 : f_3451 q_3014 = some (.inl (G 2, 19600, .inr (.inl (fun _ => 0)))) := by rw [← ef_3451]; exact hu_at k_3440 d_3475
  have d_3477 : q_3058 ≠ q_3450 := (hne0 nq_3450 k_3441)
  have k_3476 : f_3451 q_3058 = some (.inl (G 1, 41, .inl (fun _ => 0))) := by rw [← ef_3451]; exact hu_at k_3441 d_3477
  have d_3479 : q_3105 ≠ q_3450 := (hne0 nq_3450 k_3442)
  have k_3478 : f_3451 q_3105 = some (.inl (G 1, 41, .inl (fun _ => 0))) := by rw [← ef_3451]; exact hu_at k_3442 d_3479
  have d_3481 : q_3155 ≠ q_3450 := (hne0 nq_3450 k_3443)
  have k_3480 : f_3451 q_3155 = some (.inl (G 2, 1708, .inr (.inl (fun _ => 0)))) := by rw [← ef_3451]; exact hu_at k_3443 d_3481
  have d_3483 : q_3208 ≠ q_3450 := (hne0 nq_3450 k_3444)
  have k_3482 : f_3451 q_3208 = some (.inl (G 2, 1708, .inr (.inl (fun _ => 0)))) := by rw [← ef_3451]; exact hu_at k_3444 d_3483
  have d_3485 : q_3264 ≠ q_3450 := (hne0 nq_3450 k_3445)
  have k_3484 : f_3451 q_3264 = some (.inl (G 2, 784, .inr (.inl (fun _ => 0)))) := by rw [← ef_3451]; exact hu_at k_3445 d_3485
  have d_3487 : q_3323 ≠ q_3450 := (hne0 nq_3450 k_3446)
  have k_3486 : f_3451 q_3323 = some (.inl (G 2, 28, .inr (.inl (fun _ => 0)))) := by rw [← ef_3451]; exact hu_at k_3446 d_3487
  have d_3489 : q_3385 ≠ q_3450 := (hne0 nq_3450 k_3447)
  have k_3488 : f_3451 q_3385 = some (.inl (G 1, 28, .inl (fun _ => 0))) := by rw [← ef_3451]; exact hu_at k_3447 d_3489
  have d_3491 : x ≠ q_3450 := (hne0 nq_3450 k_3448)
  have k_3490 : f_3451 x = some (.inr (12, [.int 0, .ref q_2728, .int 0, .int 0, .int 0, .ref q_2739, .ref q_2753, .ref q_2770, .ref q_2790, .ref q_2813, .int 0, .int 0, .ref q_2839, .ref q_2868, .int 0, .ref q_2900, .ref q_2935, .ref q_2973, .long 0, .ref q_3014, .ref q_3058, .ref q_3105, .ref q_3155, .ref q_3208, .ref q_3264, .ref q_3323, .ref q_3385, .int 0, .int 0, .null, .null, .int 0])) := by rw [← ef_3451]; exact hu_at k_3448 d_3491
  have k_3492 : f_3451 q_3450 = some (.inl (G 2, 244, .inr (.inl (fun _ => 0)))) := by rw [← ef_3451]; exact hu_self _ _ _
  have z_3494 : f q_3450 = none := ol_none o_3449 nq_3450 k_3448
  have o_3493 := ol_upn ef_3451 z_3494 o_3449
  refine q_put C h k_3490 flw_X11_69 (Or.inl hini) (v := .ref q_3450) rfl rfl (Nat.le_of_ble_eq_true rfl) dX11_init_170 (fun H locs h => ?_)
  have h : hw D b0 s.heap (hu f_3451 x (.inr (12, [.int 0, .ref q_2728, .int 0, .int 0, .int 0, .ref q_2739, .ref q_2753, .ref q_2770, .ref q_2790, .ref q_2813, .int 0, .int 0, .ref q_2839, .ref q_2868, .int 0, .ref q_2900, .ref q_2935, .ref q_2973, .long 0, .ref q_3014, .ref q_3058, .ref q_3105, .ref q_3155, .ref q_3208, .ref q_3264, .ref q_3323, .ref q_3385, .int 0, .int 0, .ref q_3450, .null, .int 0]))) H locs := h
  generalize ef_3495 : hu f_3451 x (.inr (12, [.int 0, .ref q_2728, .int 0, .int 0, .int 0, .ref q_2739, .ref q_2753, .ref q_2770, .ref q_2790, .ref q_2813, .int 0, .int 0, .ref q_2839, .ref q_2868, .int 0, .ref q_2900, .ref q_2935, .ref q_2973, .long 0, .ref q_3014, .ref q_3058, .ref q_3105, .ref q_3155, .ref q_3208, .ref q_3264, .ref q_3323, .ref q_3385, .int 0, .int 0, .ref q_3450, .null, .int 0])) = f_3495 at h
  have k_3496 : f_3495 q_2728 = some (.inl (G 0, 200, .inl (fun _ => 0))) := by rw [← ef_3495]; exact hu_at k_3452 (Ne.symm d_2731)
  have k_3497 : f_3495 q_2739 = some (.inl (G 1, 10, .inl (fun _ => 0))) := by rw [← ef_3495]; exact hu_at k_3454 (Ne.symm d_2744)
  have k_3498 : f_3495 q_2753 = some (.inl (G 1, 81, .inl (fun _ => 0))) := by rw [← ef_3495]; exact hu_at k_3456 (Ne.symm d_2760)
  have k_3499 : f_3495 q_2770 = some (.inl (G 1, 81, .inl (fun _ => 0))) := by rw [← ef_3495]; exact hu_at k_3458 (Ne.symm d_2779)
  have k_3500 : f_3495 q_2790 = some (.inl (G 1, 972, .inl (fun _ => 0))) := by rw [← ef_3495]; exact hu_at k_3460 (Ne.symm d_2801)
  have k_3501 : f_3495 q_2813 = some (.inl (G 1, 4, .inl (fun _ => 0))) := by rw [← ef_3495]; exact hu_at k_3462 (Ne.symm d_2826)
  have k_3502 : f_3495 q_2839 = some (.inl (G 2, 19600, .inr (.inl (fun _ => 0)))) := by rw [← ef_3495]; exact hu_at k_3464 (Ne.symm d_2854)
  have k_3503 : f_3495 q_2868 = some (.inl (G 2, 19600, .inr (.inl (fun _ => 0)))) := by rw [← ef_3495]; exact hu_at k_3466 (Ne.symm d_2885)
  have k_3504 : f_3495 q_2900 = some (.inl (G 1, 61, .inl (fun _ => 0))) := by rw [← ef_3495]; exact hu_at k_3468 (Ne.symm d_2919)
  have k_3505 : f_3495 q_2935 = some (.inl (G 1, 61, .inl (fun _ => 0))) := by rw [← ef_3495]; exact hu_at k_3470 (Ne.symm d_2956)
  have k_3506 : f_3495 q_2973 = some (.inl (G 2, 169, .inr (.inl (fun _ => 0)))) := by rw [← ef_3495]; exact hu_at k_3472 (Ne.symm d_2996)
  have k_3507 : f_3495 q_3014 = some (.inl (G 2, 19600, .inr (.inl (fun _ => 0)))) := by rw [← ef_3495]; exact hu_at k_3474 (Ne.symm d_3039)
  have k_3508 : f_3495 q_3058 = some (.inl (G 1, 41, .inl (fun _ => 0))) := by rw [← ef_3495]; exact hu_at k_3476 (Ne.symm d_3085)
  have k_3509 : f_3495 q_3105 = some (.inl (G 1, 41, .inl (fun _ => 0))) := by rw [← ef_3495]; exact hu_at k_3478 (Ne.symm d_3134)
  have k_3510 : f_3495 q_3155 = some (.inl (G 2, 1708, .inr (.inl (fun _ => 0)))) := by rw [← ef_3495]; exact hu_at k_3480 (Ne.symm d_3186)
  have k_3511 : f_3495 q_3208 = some (.inl (G 2, 1708, .inr (.inl (fun _ => 0)))) := by rw [← ef_3495]; exact hu_at k_3482 (Ne.symm d_3241)
  have k_3512 : f_3495 q_3264 = some (.inl (G 2, 784, .inr (.inl (fun _ => 0)))) := by rw [← ef_3495]; exact hu_at k_3484 (Ne.symm d_3299)
  have k_3513 : f_3495 q_3323 = some (.inl (G 2, 28, .inr (.inl (fun _ => 0)))) := by rw [← ef_3495]; exact hu_at k_3486 (Ne.symm d_3360)
  have k_3514 : f_3495 q_3385 = some (.inl (G 1, 28, .inl (fun _ => 0))) := by rw [← ef_3495]; exact hu_at k_3488 (Ne.symm d_3424)
  have k_3515 : f_3495 q_3450 = some (.inl (G 2, 244, .inr (.inl (fun _ => 0)))) := by rw [← ef_3495]; exact hu_at k_3492 (Ne.symm d_3491)
  have k_3516 : f_3495 x = some (.inr (12, [.int 0, .ref q_2728, .int 0, .int 0, .int 0, .ref q_2739, .ref q_2753, .ref q_2770, .ref q_2790, .ref q_2813, .int 0, .int 0, .ref q_2839, .ref q_2868, .int 0, .ref q_2900, .ref q_2935, .ref q_2973, .long 0, .ref q_3014, .ref q_3058, .ref q_3105, .ref q_3155, .ref q_3208, .ref q_3264, .ref q_3323, .ref q_3385, .int 0, .int 0, .ref q_3450, .null, .int 0])) := by rw [← ef_3495]; exact hu_self _ _ _
  have o_3517 := ol_up ef_3495 o_3493
  refine lv_aload_n hx hb dX11_init_173 rfl (lv_at hl 0 rfl) ?_
  refine lv_bipush (v := 80) hx hb dX11_init_174 (by decide) ?_
  refine q_newa C h (atype := .int) 1 rfl rfl rfl w_161 (a0 := (80, .inl (fun _ => 0))) (fun _ => rfl) (by decide) (N' := 80) (by decide) (Nat.le_of_ble_eq_true rfl) (Nat.le_of_ble_eq_true rfl) (Nat.le_of_ble_eq_true rfl) dX11_init_176 (fun q_3518 H nq_3518 h => ?_)
  generalize ef_3519 : hu f_3495 q_3518 (.inl (G 1, 80, .inl (fun _ => 0))) = f_3519 at h
  have d_3521 : q_2728 ≠ q_3518 := (hne0 nq_3518 k_3496)
  have k_3520 : f_3519 q_2728 = some (.inl (G 0, 200, .inl (fun _ => 0))) := by rw [← ef_3519]; exact hu_at k_3496 d_3521
  have d_3523 : q_2739 ≠ q_3518 := (hne0 nq_3518 k_3497)
  have k_3522 : f_3519 q_2739 = some (.inl (G 1, 10, .inl (fun _ => 0))) := by rw [← ef_3519]; exact hu_at k_3497 d_3523
  have d_3525 : q_2753 ≠ q_3518 := (hne0 nq_3518 k_3498)
  have k_3524 : f_3519 q_2753 = some (.inl (G 1, 81, .inl (fun _ => 0))) := by rw [← ef_3519]; exact hu_at k_3498 d_3525
  have d_3527 : q_2770 ≠ q_3518 := (hne0 nq_3518 k_3499)
  have k_3526 : f_3519 q_2770 = some (.inl (G 1, 81, .inl (fun _ => 0))) := by rw [← ef_3519]; exact hu_at k_3499 d_3527
  have d_3529 : q_2790 ≠ q_3518 := (hne0 nq_3518 k_3500)
  have k_3528 : f_3519 q_2790 = some (.inl (G 1, 972, .inl (fun _ => 0))) := by rw [← ef_3519]; exact hu_at k_3500 d_3529
  have d_3531 : q_2813 ≠ q_3518 := (hne0 nq_3518 k_3501)
  have k_3530 : f_3519 q_2813 = some (.inl (G 1, 4, .inl (fun _ => 0))) := by rw [← ef_3519]; exact hu_at k_3501 d_3531
  have d_3533 : q_2839 ≠ q_3518 := (hne0 nq_3518 k_3502)
  have k_3532 : f_3519 q_2839 = some (.inl (G 2, 19600, .inr (.inl (fun _ => 0)))) := by rw [← ef_3519]; exact hu_at k_3502 d_3533
  have d_3535 : q_2868 ≠ q_3518 := (hne0 nq_3518 k_3503)
  have k_3534 : f_3519 q_2868 = some (.inl (G 2, 19600, .inr (.inl (fun _ => 0)))) := by rw [← ef_3519]; exact hu_at k_3503 d_3535
  have d_3537 : q_2900 ≠ q_3518 := (hne0 nq_3518 k_3504)
  have k_3536 : f_3519 q_2900 = some (.inl (G 1, 61, .inl (fun _ => 0))) := by rw [← ef_3519]; exact hu_at k_3504 d_3537
  have d_3539 : q_2935 ≠ q_3518 := (hne0 nq_3518 k_3505)
  have k_3538 : f_3519 q_2935 = some (.inl (G 1, 61, .inl (fun _ => 0))) := by rw [← ef_3519]; exact hu_at k_3505 d_3539
  have d_3541 : q_2973 ≠ q_3518 := (hne0 nq_3518 k_3506)
  have k_3540 : f_3519 q_2973 = some (.inl (G 2, 169, .inr (.inl (fun _ => 0)))) := by rw [← ef_3519]; exact hu_at k_3506 d_3541
  have d_3543 : q_3014 ≠ q_3518 := (hne0 nq_3518 k_3507)
  have k_3542 : f_3519 q_3014 = some (.inl (G 2, 19600, .inr (.inl (fun _ => 0)))) := by rw [← ef_3519]; exact hu_at k_3507 d_3543
  have d_3545 : q_3058 ≠ q_3518 := (hne0 nq_3518 k_3508)
  have k_3544 : f_3519 q_3058 = some (.inl (G 1, 41, .inl (fun _ => 0))) := by rw [← ef_3519]; exact hu_at k_3508 d_3545
  have d_3547 : q_3105 ≠ q_3518 := (hne0 nq_3518 k_3509)
  have k_3546 : f_3519 q_3105 = some (.inl (G 1, 41, .inl (fun _ => 0))) := by rw [← ef_3519]; exact hu_at k_3509 d_3547
  have d_3549 : q_3155 ≠ q_3518 := (hne0 nq_3518 k_3510)
  have k_3548 : f_3519 q_3155 = some (.inl (G 2, 1708, .inr (.inl (fun _ => 0)))) := by rw [← ef_3519]; exact hu_at k_3510 d_3549
  have d_3551 : q_3208 ≠ q_3518 := (hne0 nq_3518 k_3511)
  have k_3550 : f_3519 q_3208 = some (.inl (G 2, 1708, .inr (.inl (fun _ => 0)))) := by rw [← ef_3519]; exact hu_at k_3511 d_3551
  have d_3553 : q_3264 ≠ q_3518 := (hne0 nq_3518 k_3512)
  have k_3552 : f_3519 q_3264 = some (.inl (G 2, 784, .inr (.inl (fun _ => 0)))) := by rw [← ef_3519]; exact hu_at k_3512 d_3553
  have d_3555 : q_3323 ≠ q_3518 := (hne0 nq_3518 k_3513)
  have k_3554 : f_3519 q_3323 = some (.inl (G 2, 28, .inr (.inl (fun _ => 0)))) := by rw [← ef_3519]; exact hu_at k_3513 d_3555
  have d_3557 : q_3385 ≠ q_3518 := (hne0 nq_3518 k_3514)
  have k_3556 : f_3519 q_3385 = some (.inl (G 1, 28, .inl (fun _ => 0))) := by rw [← ef_3519]; exact hu_at k_3514 d_3557
  have d_3559 : q_3450 ≠ q_3518 := (hne0 nq_3518 k_3515)
  have k_3558 : f_3519 q_3450 = some (.inl (G 2, 244, .inr (.inl (fun _ => 0)))) := by rw [← ef_3519]; exact hu_at k_3515 d_3559
  have d_3561 : x ≠ q_3518 := (hne0 nq_3518 k_3516)
  have k_3560 : f_3519 x = some (.inr (12, [.int 0, .ref q_2728, .int 0, .int 0, .int 0, .ref q_2739, .ref q_2753, .ref q_2770, .ref q_2790, .ref q_2813, .int 0, .int 0, .ref q_2839, .ref q_2868, .int 0, .ref q_2900, .ref q_2935, .ref q_2973, .long 0, .ref q_3014, .ref q_3058, .ref q_3105, .ref q_3155, .ref q_3208, .ref q_3264, .ref q_3323, .ref q_3385, .int 0, .int 0, .ref q_3450, .null, .int 0])) := by rw [← ef_3519]; exact hu_at k_3516 d_3561
  have k_3562 : f_3519 q_3518 = some (.inl (G 1, 80, .inl (fun _ => 0))) := by rw [← ef_3519]; exact hu_self _ _ _
  have z_3564 : f q_3518 = none := ol_none o_3517 nq_3518 k_3516
  have o_3563 := ol_upn ef_3519 z_3564 o_3517
  refine q_put C h k_3560 flw_X11_72 (Or.inl hini) (v := .ref q_3518) rfl rfl (Nat.le_of_ble_eq_true rfl) dX11_init_178 (fun H locs h => ?_)
  have h : hw D b0 s.heap (hu f_3519 x (.inr (12, [.int 0, .ref q_2728, .int 0, .int 0, .int 0, .ref q_2739, .ref q_2753, .ref q_2770, .ref q_2790, .ref q_2813, .int 0, .int 0, .ref q_2839, .ref q_2868, .int 0, .ref q_2900, .ref q_2935, .ref q_2973, .long 0, .ref q_3014, .ref q_3058, .ref q_3105, .ref q_3155, .ref q_3208, .ref q_3264, .ref q_3323, .ref q_3385, .int 0, .int 0, .ref q_3450, .ref q_3518, .int 0]))) H locs := h
  generalize ef_3565 : hu f_3519 x (.inr (12, [.int 0, .ref q_2728, .int 0, .int 0, .int 0, .ref q_2739, .ref q_2753, .ref q_2770, .ref q_2790, .ref q_2813, .int 0, .int 0, .ref q_2839, .ref q_2868, .int 0, .ref q_2900, .ref q_2935, .ref q_2973, .long 0, .ref q_3014, .ref q_3058, .ref q_3105, .ref q_3155, .ref q_3208, .ref q_3264, .ref q_3323, .ref q_3385, .int 0, .int 0, .ref q_3450, .ref q_3518, .int 0])) = f_3565 at h
  have k_3566 : f_3565 q_2728 = some (.inl (G 0, 200, .inl (fun _ => 0))) := by rw [← ef_3565]; exact hu_at k_3520 (Ne.symm d_2731)
  have k_3567 : f_3565 q_2739 = some (.inl (G 1, 10, .inl (fun _ => 0))) := by rw [← ef_3565]; exact hu_at k_3522 (Ne.symm d_2744)
  have k_3568 : f_3565 q_2753 = some (.inl (G 1, 81, .inl (fun _ => 0))) := by rw [← ef_3565]; exact hu_at k_3524 (Ne.symm d_2760)
  have k_3569 : f_3565 q_2770 = some (.inl (G 1, 81, .inl (fun _ => 0))) := by rw [← ef_3565]; exact hu_at k_3526 (Ne.symm d_2779)
  have k_3570 : f_3565 q_2790 = some (.inl (G 1, 972, .inl (fun _ => 0))) := by rw [← ef_3565]; exact hu_at k_3528 (Ne.symm d_2801)
  have k_3571 : f_3565 q_2813 = some (.inl (G 1, 4, .inl (fun _ => 0))) := by rw [← ef_3565]; exact hu_at k_3530 (Ne.symm d_2826)
  have k_3572 : f_3565 q_2839 = some (.inl (G 2, 19600, .inr (.inl (fun _ => 0)))) := by rw [← ef_3565]; exact hu_at k_3532 (Ne.symm d_2854)
  have k_3573 : f_3565 q_2868 = some (.inl (G 2, 19600, .inr (.inl (fun _ => 0)))) := by rw [← ef_3565]; exact hu_at k_3534 (Ne.symm d_2885)
  have k_3574 : f_3565 q_2900 = some (.inl (G 1, 61, .inl (fun _ => 0))) := by rw [← ef_3565]; exact hu_at k_3536 (Ne.symm d_2919)
  have k_3575 : f_3565 q_2935 = some (.inl (G 1, 61, .inl (fun _ => 0))) := by rw [← ef_3565]; exact hu_at k_3538 (Ne.symm d_2956)
  have k_3576 : f_3565 q_2973 = some (.inl (G 2, 169, .inr (.inl (fun _ => 0)))) := by rw [← ef_3565]; exact hu_at k_3540 (Ne.symm d_2996)
  have k_3577 : f_3565 q_3014 = some (.inl (G 2, 19600, .inr (.inl (fun _ => 0)))) := by rw [← ef_3565]; exact hu_at k_3542 (Ne.symm d_3039)
  have k_3578 : f_3565 q_3058 = some (.inl (G 1, 41, .inl (fun _ => 0))) := by rw [← ef_3565]; exact hu_at k_3544 (Ne.symm d_3085)
  have k_3579 : f_3565 q_3105 = some (.inl (G 1, 41, .inl (fun _ => 0))) := by rw [← ef_3565]; exact hu_at k_3546 (Ne.symm d_3134)
  have k_3580 : f_3565 q_3155 = some (.inl (G 2, 1708, .inr (.inl (fun _ => 0)))) := by rw [← ef_3565]; exact hu_at k_3548 (Ne.symm d_3186)
  have k_3581 : f_3565 q_3208 = some (.inl (G 2, 1708, .inr (.inl (fun _ => 0)))) := by rw [← ef_3565]; exact hu_at k_3550 (Ne.symm d_3241)
  have k_3582 : f_3565 q_3264 = some (.inl (G 2, 784, .inr (.inl (fun _ => 0)))) := by rw [← ef_3565]; exact hu_at k_3552 (Ne.symm d_3299)
  have k_3583 : f_3565 q_3323 = some (.inl (G 2, 28, .inr (.inl (fun _ => 0)))) := by rw [← ef_3565]; exact hu_at k_3554 (Ne.symm d_3360)
  have k_3584 : f_3565 q_3385 = some (.inl (G 1, 28, .inl (fun _ => 0))) := by rw [← ef_3565]; exact hu_at k_3556 (Ne.symm d_3424)
  have k_3585 : f_3565 q_3450 = some (.inl (G 2, 244, .inr (.inl (fun _ => 0)))) := by rw [← ef_3565]; exact hu_at k_3558 (Ne.symm d_3491)
  have k_3586 : f_3565 q_3518 = some (.inl (G 1, 80, .inl (fun _ => 0))) := by rw [← ef_3565]; exact hu_at k_3562 (Ne.symm d_3561)
  have k_3587 : f_3565 x = some (.inr (12, [.int 0, .ref q_2728, .int 0, .int 0, .int 0, .ref q_2739, .ref q_2753, .ref q_2770, .ref q_2790, .ref q_2813, .int 0, .int 0, .ref q_2839, .ref q_2868, .int 0, .ref q_2900, .ref q_2935, .ref q_2973, .long 0, .ref q_3014, .ref q_3058, .ref q_3105, .ref q_3155, .ref q_3208, .ref q_3264, .ref q_3323, .ref q_3385, .int 0, .int 0, .ref q_3450, .ref q_3518, .int 0])) := by rw [← ef_3565]; exact hu_self _ _ _
  have o_3588 := ol_up ef_3565 o_3563
  exact q_vret C h hr (⟨(fun i => ([x, q_2728, q_2739, q_2753, q_2770, q_2790, q_2813, q_2839, q_2868, q_2900, q_2935, q_2973, q_3014, q_3058, q_3105, q_3155, q_3208, q_3264, q_3323, q_3385, q_3450, q_3518] : List Nat).getD i 0), rfl, ⟨k_3587, k_3566, k_3567, k_3568, k_3569, k_3571⟩, ⟨z_2734, z_2747, z_2763, z_2782, z_2829⟩, o_3588⟩) (Nat.le_of_ble_eq_true rfl) (Nat.le_of_ble_eq_true rfl) dX11_init_181
