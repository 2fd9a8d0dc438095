theorem dX7_init_0 : decode cX7_init 0 = .ok (.aload_n 0, 1) := by decide +kernel
theorem dX7_init_1 : decode cX7_init 1 = .ok (.invokespecial 3, 3) := by decide +kernel
theorem w_137 : Cond.methodLink "QuarterWalks$Tape" 3 objectInit ∈ wAll := wIn 137 (by decide +kernel) (by decide +kernel)
theorem w_130 : Cond.instanceMethod objectInit ∈ wAll := wIn 130 (by decide +kernel) (by decide +kernel)
theorem w_131 : Cond.code objectInit ⟨#[0xb1]⟩ 1 none ∈ wAll := wIn 131 (by decide +kernel) (by decide +kernel)
theorem dX7_init_4 : decode cX7_init 4 = .ok (.aload_n 0, 1) := by decide +kernel
theorem dX7_init_5 : decode cX7_init 5 = .ok (.sipush 200, 3) := by decide +kernel
theorem dX7_init_8 : decode cX7_init 8 = .ok (.newarray .int, 2) := by decide +kernel
theorem w_161 : Cond.arrayClass FieldType.int ∈ wAll := wIn 161 (by decide +kernel) (by decide +kernel)
theorem dX7_init_10 : decode cX7_init 10 = .ok (.putfield 11, 3) := by decide +kernel
theorem flw_X7_11 : flw RX7 11 8 1 (.array (.int)) := ⟨RX7, TX7, 7, tyX7, rfl, inA_X7, by decide, w_140, tyX7_ok, nmX7, by decide +kernel, Or.inr ⟨rfl, rfl⟩⟩
theorem dX7_init_13 : decode cX7_init 13 = .ok (.aload_n 0, 1) := by decide +kernel
theorem dX7_init_14 : decode cX7_init 14 = .ok (.bipush 8, 2) := by decide +kernel
theorem dX7_init_16 : decode cX7_init 16 = .ok (.newarray .int, 2) := by decide +kernel
theorem dX7_init_18 : decode cX7_init 18 = .ok (.putfield 15, 3) := by decide +kernel
theorem flw_X7_15 : flw RX7 15 8 2 (.array (.int)) := ⟨RX7, TX7, 7, tyX7, rfl, inA_X7, by decide, w_141, tyX7_ok, nmX7, by decide +kernel, Or.inr ⟨rfl, rfl⟩⟩
theorem dX7_init_21 : decode cX7_init 21 = .ok (.return_, 1) := by decide +kernel
theorem dX5_init_0 : decode cX5_init 0 = .ok (.aload_n 0, 1) := by decide +kernel
theorem dX5_init_1 : decode cX5_init 1 = .ok (.invokespecial 1, 3) := by decide +kernel
theorem w_173 : Cond.methodLink "QuarterWalks$Shelf" 1 objectInit ∈ wAll := wIn 173 (by decide +kernel) (by decide +kernel)
theorem dX5_init_4 : decode cX5_init 4 = .ok (.aload_n 0, 1) := by decide +kernel
theorem dX5_init_5 : decode cX5_init 5 = .ok (.bipush 8, 2) := by decide +kernel
theorem dX5_init_7 : decode cX5_init 7 = .ok (.anewarray 9, 3) := by decide +kernel
theorem w_174 : Cond.classLink "QuarterWalks$Shelf" 9 "QuarterWalks$StepSet" ∈ wAll := wIn 174 (by decide +kernel) (by decide +kernel)
theorem dX5_init_10 : decode cX5_init 10 = .ok (.putfield 11, 3) := by decide +kernel
theorem flw_X5_11 : flw RX5 11 6 0 (.array (.object "QuarterWalks$StepSet")) := ⟨RX5, TX5, 2, tyX5, rfl, inA_X5, by decide, w_176, tyX5_ok, nmX5, by decide +kernel, Or.inr ⟨rfl, rfl⟩⟩
theorem dX5_init_13 : decode cX5_init 13 = .ok (.return_, 1) := by decide +kernel
theorem dX1_init_0 : decode cX1_init 0 = .ok (.aload_n 0, 1) := by decide +kernel
theorem dX1_init_1 : decode cX1_init 1 = .ok (.invokespecial 1, 3) := by decide +kernel
theorem w_217 : Cond.methodLink "QuarterWalks$Box" 1 objectInit ∈ wAll := wIn 217 (by decide +kernel) (by decide +kernel)
theorem dX1_init_4 : decode cX1_init 4 = .ok (.return_, 1) := by decide +kernel
theorem dX8_init_0 : decode cX8_init 0 = .ok (.aload_n 0, 1) := by decide +kernel
theorem dX8_init_1 : decode cX8_init 1 = .ok (.invokespecial 3, 3) := by decide +kernel
theorem w_296 : Cond.methodLink "QuarterWalks$Turns" 3 objectInit ∈ wAll := wIn 296 (by decide +kernel) (by decide +kernel)
theorem dX8_init_4 : decode cX8_init 4 = .ok (.aload_n 0, 1) := by decide +kernel
theorem dX8_init_5 : decode cX8_init 5 = .ok (.bipush 40, 2) := by decide +kernel
theorem dX8_init_7 : decode cX8_init 7 = .ok (.newarray .int, 2) := by decide +kernel
theorem dX8_init_9 : decode cX8_init 9 = .ok (.putfield 11, 3) := by decide +kernel
theorem w_301 : Cond.laysFinal "QuarterWalks$Turns" "QuarterWalks$Turns" "xs" "[I" ∈ wAll := wIn 301 (by decide +kernel) (by decide +kernel)
theorem w_303 : Cond.laysFinal "QuarterWalks$Turns" "QuarterWalks$Turns" "ys" "[I" ∈ wAll := wIn 303 (by decide +kernel) (by decide +kernel)
theorem inA_X8 : ∀ w ∈ u_ws RX8 TX8 2, w ∈ wAll := List.forall_mem_cons.mpr ⟨w_301, List.forall_mem_cons.mpr ⟨w_303, fun _ h => absurd h List.not_mem_nil⟩⟩
theorem w_297 : Cond.fieldLink "QuarterWalks$Turns" 11 "QuarterWalks$Turns" "xs" "[I" ∈ wAll := wIn 297 (by decide +kernel) (by decide +kernel)
theorem flw_X8_11 : flw RX8 11 9 0 (.array (.int)) := ⟨RX8, TX8, 2, tyX8, rfl, inA_X8, by decide, w_297, tyX8_ok, nmX8, by decide +kernel, Or.inr ⟨rfl, rfl⟩⟩
theorem dX8_init_12 : decode cX8_init 12 = .ok (.aload_n 0, 1) := by decide +kernel
theorem dX8_init_13 : decode cX8_init 13 = .ok (.bipush 40, 2) := by decide +kernel
theorem dX8_init_15 : decode cX8_init 15 = .ok (.newarray .int, 2) := by decide +kernel
theorem dX8_init_17 : decode cX8_init 17 = .ok (.putfield 15, 3) := by decide +kernel
theorem w_299 : Cond.fieldLink "QuarterWalks$Turns" 15 "QuarterWalks$Turns" "ys" "[I" ∈ wAll := wIn 299 (by decide +kernel) (by decide +kernel)
theorem flw_X8_15 : flw RX8 15 9 1 (.array (.int)) := ⟨RX8, TX8, 2, tyX8, rfl, inA_X8, by decide, w_299, tyX8_ok, nmX8, by decide +kernel, Or.inr ⟨rfl, rfl⟩⟩
theorem dX8_init_20 : decode cX8_init 20 = .ok (.return_, 1) := by decide +kernel
theorem dX9_init_0 : decode cX9_init 0 = .ok (.aload_n 0, 1) := by decide +kernel
theorem dX9_init_1 : decode cX9_init 1 = .ok (.invokespecial 5, 3) := by decide +kernel
theorem w_275 : Cond.methodLink "QuarterWalks$Ways" 5 objectInit ∈ wAll := wIn 275 (by decide +kernel) (by decide +kernel)
theorem dX9_init_4 : decode cX9_init 4 = .ok (.aload_n 0, 1) := by decide +kernel
theorem dX9_init_5 : decode cX9_init 5 = .ok (.bipush 11, 2) := by decide +kernel
theorem dX9_init_7 : decode cX9_init 7 = .ok (.sipush 441, 3) := by decide +kernel
theorem dX9_init_10 : decode cX9_init 10 = .ok (.multianewarray 11 2, 4) := by decide +kernel
theorem w_276 : Cond.classLink RX9 11 ("[" ++ (FieldType.array .int).toString) ∈ wAll := wIn 276 (by decide +kernel) (by decide +kernel)
theorem dX9_init_14 : decode cX9_init 14 = .ok (.putfield 13, 3) := by decide +kernel
theorem w_282 : Cond.laysFinal "QuarterWalks$Ways" "QuarterWalks$Ways" "onward" "[[I" ∈ wAll := wIn 282 (by decide +kernel) (by decide +kernel)
theorem w_284 : Cond.lays "QuarterWalks$Ways" "QuarterWalks$Ways" "steps" "I" ∈ wAll := wIn 284 (by decide +kernel) (by decide +kernel)
theorem w_286 : Cond.lays "QuarterWalks$Ways" "QuarterWalks$Ways" "startX" "I" ∈ wAll := wIn 286 (by decide +kernel) (by decide +kernel)
theorem w_288 : Cond.lays "QuarterWalks$Ways" "QuarterWalks$Ways" "startY" "I" ∈ wAll := wIn 288 (by decide +kernel) (by decide +kernel)
theorem inA_X9 : ∀ w ∈ u_ws RX9 TX9 4, w ∈ wAll := List.forall_mem_cons.mpr ⟨w_282, List.forall_mem_cons.mpr ⟨w_284, List.forall_mem_cons.mpr ⟨w_286, List.forall_mem_cons.mpr ⟨w_288, fun _ h => absurd h List.not_mem_nil⟩⟩⟩⟩
theorem w_278 : Cond.fieldLink "QuarterWalks$Ways" 13 "QuarterWalks$Ways" "onward" "[[I" ∈ wAll := wIn 278 (by decide +kernel) (by decide +kernel)
theorem flw_X9_13 : flw RX9 13 10 0 (.array (.array (.int))) := ⟨RX9, TX9, 4, tyX9, rfl, inA_X9, by decide, w_278, tyX9_ok, nmX9, by decide +kernel, Or.inr ⟨rfl, rfl⟩⟩
theorem dX9_init_17 : decode cX9_init 17 = .ok (.return_, 1) := by decide +kernel
theorem dX4_init_0 : decode cX4_init 0 = .ok (.aload_n 0, 1) := by decide +kernel
theorem dX4_init_1 : decode cX4_init 1 = .ok (.invokespecial 3, 3) := by decide +kernel
theorem w_311 : Cond.methodLink "QuarterWalks$Matrix" 3 objectInit ∈ wAll := wIn 311 (by decide +kernel) (by decide +kernel)
theorem dX4_init_4 : decode cX4_init 4 = .ok (.aload_n 0, 1) := by decide +kernel
theorem dX4_init_5 : decode cX4_init 5 = .ok (.bipush 32, 2) := by decide +kernel
theorem dX4_init_7 : decode cX4_init 7 = .ok (.bipush 28, 2) := by decide +kernel
theorem dX4_init_9 : decode cX4_init 9 = .ok (.multianewarray 11 2, 4) := by decide +kernel
theorem w_312 : Cond.classLink RX4 11 ("[" ++ (FieldType.array .long).toString) ∈ wAll := wIn 312 (by decide +kernel) (by decide +kernel)
theorem w_235 : Cond.arrayClass FieldType.long ∈ wAll := wIn 235 (by decide +kernel) (by decide +kernel)
theorem dX4_init_13 : decode cX4_init 13 = .ok (.putfield 13, 3) := by decide +kernel
theorem w_318 : Cond.laysFinal "QuarterWalks$Matrix" "QuarterWalks$Matrix" "cells" "[[J" ∈ wAll := wIn 318 (by decide +kernel) (by decide +kernel)
theorem w_320 : Cond.lays "QuarterWalks$Matrix" "QuarterWalks$Matrix" "rows" "I" ∈ wAll := wIn 320 (by decide +kernel) (by decide +kernel)
theorem w_322 : Cond.lays "QuarterWalks$Matrix" "QuarterWalks$Matrix" "columns" "I" ∈ wAll := wIn 322 (by decide +kernel) (by decide +kernel)
theorem w_324 : Cond.lays "QuarterWalks$Matrix" "QuarterWalks$Matrix" "product" "I" ∈ wAll := wIn 324 (by decide +kernel) (by decide +kernel)
theorem inA_X4 : ∀ w ∈ u_ws RX4 TX4 4, w ∈ wAll := List.forall_mem_cons.mpr ⟨w_318, List.forall_mem_cons.mpr ⟨w_320, List.forall_mem_cons.mpr ⟨w_322, List.forall_mem_cons.mpr ⟨w_324, fun _ h => absurd h List.not_mem_nil⟩⟩⟩⟩
theorem w_314 : Cond.fieldLink "QuarterWalks$Matrix" 13 "QuarterWalks$Matrix" "cells" "[[J" ∈ wAll := wIn 314 (by decide +kernel) (by decide +kernel)
theorem flw_X4_13 : flw RX4 13 5 0 (.array (.array (.long))) := ⟨RX4, TX4, 4, tyX4, rfl, inA_X4, by decide, w_314, tyX4_ok, nmX4, by decide +kernel, Or.inr ⟨rfl, rfl⟩⟩
theorem dX4_init_16 : decode cX4_init 16 = .ok (.return_, 1) := by decide +kernel
theorem dX2_init_0 : decode cX2_init 0 = .ok (.aload_n 0, 1) := by decide +kernel
theorem dX2_init_1 : decode cX2_init 1 = .ok (.invokespecial 5, 3) := by decide +kernel
theorem w_211 : Cond.methodLink "QuarterWalks$Grid" 5 objectInit ∈ wAll := wIn 211 (by decide +kernel) (by decide +kernel)
theorem dX2_init_4 : decode cX2_init 4 = .ok (.aload_n 0, 1) := by decide +kernel
theorem dX2_init_5 : decode cX2_init 5 = .ok (.sipush 15129, 3) := by decide +kernel
theorem dX2_init_8 : decode cX2_init 8 = .ok (.newarray .long, 2) := by decide +kernel
theorem dX2_init_10 : decode cX2_init 10 = .ok (.putfield 11, 3) := by decide +kernel
theorem w_247 : Cond.lays "QuarterWalks$Grid" "QuarterWalks$Grid" "now" "[J" ∈ wAll := wIn 247 (by decide +kernel) (by decide +kernel)
theorem w_249 : Cond.lays "QuarterWalks$Grid" "QuarterWalks$Grid" "next" "[J" ∈ wAll := wIn 249 (by decide +kernel) (by decide +kernel)
theorem w_251 : Cond.laysFinal "QuarterWalks$Grid" "QuarterWalks$Grid" "room" "LQuarterWalks$Box;" ∈ wAll := wIn 251 (by decide +kernel) (by decide +kernel)
theorem w_253 : Cond.laysFinal "QuarterWalks$Grid" "QuarterWalks$Grid" "reach" "LQuarterWalks$Box;" ∈ wAll := wIn 253 (by decide +kernel) (by decide +kernel)
theorem w_255 : Cond.laysFinal "QuarterWalks$Grid" "QuarterWalks$Grid" "shifts" "[I" ∈ wAll := wIn 255 (by decide +kernel) (by decide +kernel)
theorem w_257 : Cond.laysFinal "QuarterWalks$Grid" "QuarterWalks$Grid" "worths" "[J" ∈ wAll := wIn 257 (by decide +kernel) (by decide +kernel)
theorem w_259 : Cond.lays "QuarterWalks$Grid" "QuarterWalks$Grid" "used" "I" ∈ wAll := wIn 259 (by decide +kernel) (by decide +kernel)
theorem w_261 : Cond.lays "QuarterWalks$Grid" "QuarterWalks$Grid" "bits" "I" ∈ wAll := wIn 261 (by decide +kernel) (by decide +kernel)
theorem w_263 : Cond.lays "QuarterWalks$Grid" "QuarterWalks$Grid" "mode" "I" ∈ wAll := wIn 263 (by decide +kernel) (by decide +kernel)
theorem w_265 : Cond.lays "QuarterWalks$Grid" "QuarterWalks$Grid" "startX" "I" ∈ wAll := wIn 265 (by decide +kernel) (by decide +kernel)
theorem w_267 : Cond.lays "QuarterWalks$Grid" "QuarterWalks$Grid" "startY" "I" ∈ wAll := wIn 267 (by decide +kernel) (by decide +kernel)
theorem inA_X2 : ∀ w ∈ u_ws RX2 TX2 11, w ∈ wAll := List.forall_mem_cons.mpr ⟨w_247, List.forall_mem_cons.mpr ⟨w_249, List.forall_mem_cons.mpr ⟨w_251, List.forall_mem_cons.mpr ⟨w_253, List.forall_mem_cons.mpr ⟨w_255, List.forall_mem_cons.mpr ⟨w_257, List.forall_mem_cons.mpr ⟨w_259, List.forall_mem_cons.mpr ⟨w_261, List.forall_mem_cons.mpr ⟨w_263, List.forall_mem_cons.mpr ⟨w_265, List.forall_mem_cons.mpr ⟨w_267, fun _ h => absurd h List.not_mem_nil⟩⟩⟩⟩⟩⟩⟩⟩⟩⟩⟩
theorem w_236 : Cond.fieldLink "QuarterWalks$Grid" 11 "QuarterWalks$Grid" "now" "[J" ∈ wAll := wIn 236 (by decide +kernel) (by decide +kernel)
theorem flw_X2_11 : flw RX2 11 3 0 (.array (.long)) := ⟨RX2, TX2, 11, tyX2, rfl, inA_X2, by decide, w_236, tyX2_ok, nmX2, by decide +kernel, Or.inl rfl⟩
theorem dX2_init_13 : decode cX2_init 13 = .ok (.aload_n 0, 1) := by decide +kernel
theorem dX2_init_14 : decode cX2_init 14 = .ok (.sipush 15129, 3) := by decide +kernel
theorem dX2_init_17 : decode cX2_init 17 = .ok (.newarray .long, 2) := by decide +kernel
theorem dX2_init_19 : decode cX2_init 19 = .ok (.putfield 15, 3) := by decide +kernel
theorem w_237 : Cond.fieldLink "QuarterWalks$Grid" 15 "QuarterWalks$Grid" "next" "[J" ∈ wAll := wIn 237 (by decide +kernel) (by decide +kernel)
theorem flw_X2_15 : flw RX2 15 3 1 (.array (.long)) := ⟨RX2, TX2, 11, tyX2, rfl, inA_X2, by decide, w_237, tyX2_ok, nmX2, by decide +kernel, Or.inl rfl⟩
theorem dX2_init_22 : decode cX2_init 22 = .ok (.aload_n 0, 1) := by decide +kernel
theorem dX2_init_23 : decode cX2_init 23 = .ok (.new 18, 3) := by decide +kernel
theorem w_226 : Cond.lays "QuarterWalks$Box" "QuarterWalks$Box" "left" "I" ∈ wAll := wIn 226 (by decide +kernel) (by decide +kernel)
theorem w_228 : Cond.lays "QuarterWalks$Box" "QuarterWalks$Box" "bottom" "I" ∈ wAll := wIn 228 (by decide +kernel) (by decide +kernel)
theorem w_230 : Cond.lays "QuarterWalks$Box" "QuarterWalks$Box" "right" "I" ∈ wAll := wIn 230 (by decide +kernel) (by decide +kernel)
theorem w_232 : Cond.lays "QuarterWalks$Box" "QuarterWalks$Box" "top" "I" ∈ wAll := wIn 232 (by decide +kernel) (by decide +kernel)
theorem inA_X1 : ∀ w ∈ u_ws RX1 TX1 4, w ∈ wAll := List.forall_mem_cons.mpr ⟨w_226, List.forall_mem_cons.mpr ⟨w_228, List.forall_mem_cons.mpr ⟨w_230, List.forall_mem_cons.mpr ⟨w_232, fun _ h => absurd h List.not_mem_nil⟩⟩⟩⟩
theorem w_212 : Cond.classLink "QuarterWalks$Grid" 18 "QuarterWalks$Box" ∈ wAll := wIn 212 (by decide +kernel) (by decide +kernel)
theorem w_213 : Cond.instantiable "QuarterWalks$Box" 4 ∈ wAll := wIn 213 (by decide +kernel) (by decide +kernel)
theorem w_101 : Cond.initialized "QuarterWalks$Box" ∈ wAll := wIn 101 (by decide +kernel) (by decide +kernel)
theorem nw_X2_18 : nw RX2 18 2 4 [.int 0, .int 0, .int 0, .int 0] := ⟨RX1, TX1, tyX1, rfl, inA_X1, tyX1_ok, w_212, w_213, w_101, by decide +kernel⟩
theorem dX2_init_26 : decode cX2_init 26 = .ok (.dup, 1) := by decide +kernel
theorem dX2_init_27 : decode cX2_init 27 = .ok (.invokespecial 20, 3) := by decide +kernel
theorem mk_X1_init : mk yX1_init 0 := ⟨by decide +kernel, w_101⟩
theorem w_215 : Cond.instanceMethod yX1_init ∈ wAll := wIn 215 (by decide +kernel) (by decide +kernel)
theorem w_216 : Cond.code yX1_init cX1_init 1 none ∈ wAll := wIn 216 (by decide +kernel) (by decide +kernel)
theorem dX2_init_30 : decode cX2_init 30 = .ok (.putfield 21, 3) := by decide +kernel
theorem w_238 : Cond.fieldLink "QuarterWalks$Grid" 21 "QuarterWalks$Grid" "room" "LQuarterWalks$Box;" ∈ wAll := wIn 238 (by decide +kernel) (by decide +kernel)
theorem flw_X2_21 : flw RX2 21 3 2 (.object "QuarterWalks$Box") := ⟨RX2, TX2, 11, tyX2, rfl, inA_X2, by decide, w_238, tyX2_ok, nmX2, by decide +kernel, Or.inr ⟨rfl, rfl⟩⟩
theorem dX2_init_33 : decode cX2_init 33 = .ok (.aload_n 0, 1) := by decide +kernel
theorem dX2_init_34 : decode cX2_init 34 = .ok (.new 18, 3) := by decide +kernel
theorem dX2_init_37 : decode cX2_init 37 = .ok (.dup, 1) := by decide +kernel
theorem dX2_init_38 : decode cX2_init 38 = .ok (.invokespecial 20, 3) := by decide +kernel
theorem dX2_init_41 : decode cX2_init 41 = .ok (.putfield 25, 3) := by decide +kernel
theorem w_239 : Cond.fieldLink "QuarterWalks$Grid" 25 "QuarterWalks$Grid" "reach" "LQuarterWalks$Box;" ∈ wAll := wIn 239 (by decide +kernel) (by decide +kernel)
theorem flw_X2_25 : flw RX2 25 3 3 (.object "QuarterWalks$Box") := ⟨RX2, TX2, 11, tyX2, rfl, inA_X2, by decide, w_239, tyX2_ok, nmX2, by decide +kernel, Or.inr ⟨rfl, rfl⟩⟩
theorem dX2_init_44 : decode cX2_init 44 = .ok (.aload_n 0, 1) := by decide +kernel
theorem dX2_init_45 : decode cX2_init 45 = .ok (.bipush 8, 2) := by decide +kernel
theorem dX2_init_47 : decode cX2_init 47 = .ok (.newarray .int, 2) := by decide +kernel
theorem dX2_init_49 : decode cX2_init 49 = .ok (.putfield 28, 3) := by decide +kernel
theorem w_240 : Cond.fieldLink "QuarterWalks$Grid" 28 "QuarterWalks$Grid" "shifts" "[I" ∈ wAll := wIn 240 (by decide +kernel) (by decide +kernel)
theorem flw_X2_28 : flw RX2 28 3 4 (.array (.int)) := ⟨RX2, TX2, 11, tyX2, rfl, inA_X2, by decide, w_240, tyX2_ok, nmX2, by decide +kernel, Or.inr ⟨rfl, rfl⟩⟩
theorem dX2_init_52 : decode cX2_init 52 = .ok (.aload_n 0, 1) := by decide +kernel
theorem dX2_init_53 : decode cX2_init 53 = .ok (.bipush 8, 2) := by decide +kernel
theorem dX2_init_55 : decode cX2_init 55 = .ok (.newarray .long, 2) := by decide +kernel
theorem dX2_init_57 : decode cX2_init 57 = .ok (.putfield 32, 3) := by decide +kernel
theorem w_241 : Cond.fieldLink "QuarterWalks$Grid" 32 "QuarterWalks$Grid" "worths" "[J" ∈ wAll := wIn 241 (by decide +kernel) (by decide +kernel)
theorem flw_X2_32 : flw RX2 32 3 5 (.array (.long)) := ⟨RX2, TX2, 11, tyX2, rfl, inA_X2, by decide, w_241, tyX2_ok, nmX2, by decide +kernel, Or.inr ⟨rfl, rfl⟩⟩
theorem dX2_init_60 : decode cX2_init 60 = .ok (.return_, 1) := by decide +kernel
theorem dX3_init_0 : decode cX3_init 0 = .ok (.aload_n 0, 1) := by decide +kernel
theorem dX3_init_1 : decode cX3_init 1 = .ok (.invokespecial 3, 3) := by decide +kernel
theorem w_332 : Cond.methodLink "QuarterWalks$Guess" 3 objectInit ∈ wAll := wIn 332 (by decide +kernel) (by decide +kernel)
theorem dX3_init_4 : decode cX3_init 4 = .ok (.aload_n 0, 1) := by decide +kernel
theorem dX3_init_5 : decode cX3_init 5 = .ok (.aload_n 1, 1) := by decide +kernel
theorem dX3_init_6 : decode cX3_init 6 = .ok (.putfield 9, 3) := by decide +kernel
theorem w_338 : Cond.laysFinal "QuarterWalks$Guess" "QuarterWalks$Guess" "matrix" "LQuarterWalks$Matrix;" ∈ wAll := wIn 338 (by decide +kernel) (by decide +kernel)
theorem w_340 : Cond.laysFinal "QuarterWalks$Guess" "QuarterWalks$Guess" "powers" "[[I" ∈ wAll := wIn 340 (by decide +kernel) (by decide +kernel)
theorem w_342 : Cond.laysFinal "QuarterWalks$Guess" "QuarterWalks$Guess" "found" "[I" ∈ wAll := wIn 342 (by decide +kernel) (by decide +kernel)
theorem w_344 : Cond.lays "QuarterWalks$Guess" "QuarterWalks$Guess" "which" "I" ∈ wAll := wIn 344 (by decide +kernel) (by decide +kernel)
theorem inA_X3 : ∀ w ∈ u_ws RX3 TX3 4, w ∈ wAll := List.forall_mem_cons.mpr ⟨w_338, List.forall_mem_cons.mpr ⟨w_340, List.forall_mem_cons.mpr ⟨w_342, List.forall_mem_cons.mpr ⟨w_344, fun _ h => absurd h List.not_mem_nil⟩⟩⟩⟩
theorem w_334 : Cond.fieldLink "QuarterWalks$Guess" 9 "QuarterWalks$Guess" "matrix" "LQuarterWalks$Matrix;" ∈ wAll := wIn 334 (by decide +kernel) (by decide +kernel)
theorem flw_X3_9 : flw RX3 9 4 0 (.object "QuarterWalks$Matrix") := ⟨RX3, TX3, 4, tyX3, rfl, inA_X3, by decide, w_334, tyX3_ok, nmX3, by decide +kernel, Or.inr ⟨rfl, rfl⟩⟩
theorem dX3_init_9 : decode cX3_init 9 = .ok (.aload_n 0, 1) := by decide +kernel
theorem dX3_init_10 : decode cX3_init 10 = .ok (.iconst 4, 1) := by decide +kernel
theorem dX3_init_11 : decode cX3_init 11 = .ok (.bipush 61, 2) := by decide +kernel
theorem dX3_init_13 : decode cX3_init 13 = .ok (.multianewarray 15 2, 4) := by decide +kernel
theorem w_333 : Cond.classLink RX3 15 ("[" ++ (FieldType.array .int).toString) ∈ wAll := wIn 333 (by decide +kernel) (by decide +kernel)
theorem dX3_init_17 : decode cX3_init 17 = .ok (.putfield 17, 3) := by decide +kernel
theorem w_335 : Cond.fieldLink "QuarterWalks$Guess" 17 "QuarterWalks$Guess" "powers" "[[I" ∈ wAll := wIn 335 (by decide +kernel) (by decide +kernel)
theorem flw_X3_17 : flw RX3 17 4 1 (.array (.array (.int))) := ⟨RX3, TX3, 4, tyX3, rfl, inA_X3, by decide, w_335, tyX3_ok, nmX3, by decide +kernel, Or.inr ⟨rfl, rfl⟩⟩
theorem dX3_init_20 : decode cX3_init 20 = .ok (.aload_n 0, 1) := by decide +kernel
theorem dX3_init_21 : decode cX3_init 21 = .ok (.bipush 28, 2) := by decide +kernel
theorem dX3_init_23 : decode cX3_init 23 = .ok (.newarray .int, 2) := by decide +kernel
theorem dX3_init_25 : decode cX3_init 25 = .ok (.putfield 22, 3) := by decide +kernel
theorem w_336 : Cond.fieldLink "QuarterWalks$Guess" 22 "QuarterWalks$Guess" "found" "[I" ∈ wAll := wIn 336 (by decide +kernel) (by decide +kernel)
theorem flw_X3_22 : flw RX3 22 4 2 (.array (.int)) := ⟨RX3, TX3, 4, tyX3, rfl, inA_X3, by decide, w_336, tyX3_ok, nmX3, by decide +kernel, Or.inr ⟨rfl, rfl⟩⟩
theorem dX3_init_28 : decode cX3_init 28 = .ok (.return_, 1) := by decide +kernel
theorem dJ5_init_d00df_0 : decode cJ5_init_d00df 0 = .ok (.aload_n 0, 1) := by decide +kernel
theorem dJ5_init_d00df_1 : decode cJ5_init_d00df 1 = .ok (.invokespecial 3, 3) := by decide +kernel
theorem w_355 : Cond.methodLink "java/lang/AbstractStringBuilder" 3 objectInit ∈ wAll := wIn 355 (by decide +kernel) (by decide +kernel)
theorem dJ5_init_d00df_4 : decode cJ5_init_d00df 4 = .ok (.getstatic 18, 3) := by decide +kernel
theorem w_356 : Cond.fieldLink "java/lang/AbstractStringBuilder" 18 "java/lang/String" "COMPACT_STRINGS" "Z" ∈ wAll := wIn 356 (by decide +kernel) (by decide +kernel)
theorem dJ5_init_d00df_7 : decode cJ5_init_d00df 7 = .ok (.ifCond .eq 18, 3) := by decide +kernel
theorem dJ5_init_d00df_10 : decode cJ5_init_d00df 10 = .ok (.aload_n 0, 1) := by decide +kernel
theorem dJ5_init_d00df_11 : decode cJ5_init_d00df 11 = .ok (.iload_n 1, 1) := by decide +kernel
theorem dJ5_init_d00df_12 : decode cJ5_init_d00df 12 = .ok (.newarray .byte, 2) := by decide +kernel
theorem w_378 : Cond.arrayClass FieldType.byte ∈ wAll := wIn 378 (by decide +kernel) (by decide +kernel)
theorem dJ5_init_d00df_14 : decode cJ5_init_d00df 14 = .ok (.putfield 15, 3) := by decide +kernel
theorem w_369 : Cond.lays "java/lang/StringBuilder" "java/lang/AbstractStringBuilder" "value" "[B" ∈ wAll := wIn 369 (by decide +kernel) (by decide +kernel)
theorem w_371 : Cond.lays "java/lang/StringBuilder" "java/lang/AbstractStringBuilder" "coder" "B" ∈ wAll := wIn 371 (by decide +kernel) (by decide +kernel)
theorem w_373 : Cond.lays "java/lang/StringBuilder" "java/lang/AbstractStringBuilder" "maybeLatin1" "Z" ∈ wAll := wIn 373 (by decide +kernel) (by decide +kernel)
theorem w_375 : Cond.lays "java/lang/StringBuilder" "java/lang/AbstractStringBuilder" "count" "I" ∈ wAll := wIn 375 (by decide +kernel) (by decide +kernel)
theorem inA_J4 : ∀ w ∈ u_ws RJ4 TJ4 4, w ∈ wAll := List.forall_mem_cons.mpr ⟨w_369, List.forall_mem_cons.mpr ⟨w_371, List.forall_mem_cons.mpr ⟨w_373, List.forall_mem_cons.mpr ⟨w_375, fun _ h => absurd h List.not_mem_nil⟩⟩⟩⟩
theorem w_365 : Cond.fieldLink "java/lang/AbstractStringBuilder" 15 "java/lang/AbstractStringBuilder" "value" "[B" ∈ wAll := wIn 365 (by decide +kernel) (by decide +kernel)
theorem flw_J5_15 : flw RJ5 15 0 0 (.array (.byte)) := ⟨RJ4, TJ4, 4, tyJ4, rfl, inA_J4, by decide, w_365, tyJ4_ok, nmJ4, by decide +kernel, Or.inl rfl⟩
theorem dJ5_init_d00df_17 : decode cJ5_init_d00df 17 = .ok (.aload_n 0, 1) := by decide +kernel
theorem dJ5_init_d00df_18 : decode cJ5_init_d00df 18 = .ok (.iconst 0, 1) := by decide +kernel
theorem dJ5_init_d00df_19 : decode cJ5_init_d00df 19 = .ok (.putfield 22, 3) := by decide +kernel
theorem w_366 : Cond.fieldLink "java/lang/AbstractStringBuilder" 22 "java/lang/AbstractStringBuilder" "coder" "B" ∈ wAll := wIn 366 (by decide +kernel) (by decide +kernel)
theorem flw_J5_22 : flw RJ5 22 0 1 (.byte) := ⟨RJ4, TJ4, 4, tyJ4, rfl, inA_J4, by decide, w_366, tyJ4_ok, nmJ4, by decide +kernel, Or.inl rfl⟩
theorem dJ5_init_d00df_22 : decode cJ5_init_d00df 22 = .ok (.goto 16, 3) := by decide +kernel
theorem dJ5_init_d00df_38 : decode cJ5_init_d00df 38 = .ok (.return_, 1) := by decide +kernel
theorem dJ4_init_da8c8_0 : decode cJ4_init_da8c8 0 = .ok (.aload_n 0, 1) := by decide +kernel
theorem dJ4_init_da8c8_1 : decode cJ4_init_da8c8 1 = .ok (.bipush 16, 2) := by decide +kernel
theorem dJ4_init_da8c8_3 : decode cJ4_init_da8c8 3 = .ok (.invokespecial 1, 3) := by decide +kernel
theorem w_352 : Cond.methodLink "java/lang/StringBuilder" 1 yJ5_init_d00df ∈ wAll := wIn 352 (by decide +kernel) (by decide +kernel)
theorem w_106 : Cond.initialized "java/lang/AbstractStringBuilder" ∈ wAll := wIn 106 (by decide +kernel) (by decide +kernel)
theorem mk_J5_init_d00df : mk yJ5_init_d00df 1 := ⟨by decide +kernel, w_106⟩
theorem w_353 : Cond.instanceMethod yJ5_init_d00df ∈ wAll := wIn 353 (by decide +kernel) (by decide +kernel)
theorem w_354 : Cond.code yJ5_init_d00df cJ5_init_d00df 2 none ∈ wAll := wIn 354 (by decide +kernel) (by decide +kernel)
theorem dJ4_init_da8c8_6 : decode cJ4_init_da8c8 6 = .ok (.return_, 1) := by decide +kernel
theorem dX0_init_0 : decode cX0_init 0 = .ok (.aload_n 0, 1) := by decide +kernel
theorem dX0_init_1 : decode cX0_init 1 = .ok (.invokespecial 3, 3) := by decide +kernel
theorem w_167 : Cond.methodLink "QuarterWalks$Book" 3 objectInit ∈ wAll := wIn 167 (by decide +kernel) (by decide +kernel)
theorem dX0_init_4 : decode cX0_init 4 = .ok (.aload_n 0, 1) := by decide +kernel
theorem dX0_init_5 : decode cX0_init 5 = .ok (.new 9, 3) := by decide +kernel
theorem w_168 : Cond.classLink "QuarterWalks$Book" 9 "QuarterWalks$Shelf" ∈ wAll := wIn 168 (by decide +kernel) (by decide +kernel)
theorem w_169 : Cond.instantiable "QuarterWalks$Shelf" 2 ∈ wAll := wIn 169 (by decide +kernel) (by decide +kernel)
theorem nw_X0_9 : nw RX0 9 6 2 [.null, .int 0] := ⟨RX5, TX5, tyX5, rfl, inA_X5, tyX5_ok, w_168, w_169, w_99, by decide +kernel⟩
theorem dX0_init_8 : decode cX0_init 8 = .ok (.dup, 1) := by decide +kernel
theorem dX0_init_9 : decode cX0_init 9 = .ok (.invokespecial 11, 3) := by decide +kernel
theorem w_170 : Cond.methodLink "QuarterWalks$Book" 11 yX5_init ∈ wAll := wIn 170 (by decide +kernel) (by decide +kernel)
theorem mk_X5_init : mk yX5_init 0 := ⟨by decide +kernel, w_99⟩
theorem w_171 : Cond.instanceMethod yX5_init ∈ wAll := wIn 171 (by decide +kernel) (by decide +kernel)
theorem w_172 : Cond.code yX5_init cX5_init 1 none ∈ wAll := wIn 172 (by decide +kernel) (by decide +kernel)
theorem dX0_init_12 : decode cX0_init 12 = .ok (.putfield 12, 3) := by decide +kernel
theorem flw_X0_12 : flw RX0 12 1 1 (.object "QuarterWalks$Shelf") := ⟨RX0, TX0, 6, tyX0, rfl, inA_X0, by decide, w_188, tyX0_ok, nmX0, by decide +kernel, Or.inr ⟨rfl, rfl⟩⟩
theorem dX0_init_15 : decode cX0_init 15 = .ok (.aload_n 0, 1) := by decide +kernel
theorem dX0_init_16 : decode cX0_init 16 = .ok (.new 9, 3) := by decide +kernel
theorem dX0_init_19 : decode cX0_init 19 = .ok (.dup, 1) := by decide +kernel
theorem dX0_init_20 : decode cX0_init 20 = .ok (.invokespecial 11, 3) := by decide +kernel
theorem dX0_init_23 : decode cX0_init 23 = .ok (.putfield 18, 3) := by decide +kernel
theorem flw_X0_18 : flw RX0 18 1 2 (.object "QuarterWalks$Shelf") := ⟨RX0, TX0, 6, tyX0, rfl, inA_X0, by decide, w_189, tyX0_ok, nmX0, by decide +kernel, Or.inr ⟨rfl, rfl⟩⟩
theorem dX0_init_26 : decode cX0_init 26 = .ok (.aload_n 0, 1) := by decide +kernel
theorem dX0_init_27 : decode cX0_init 27 = .ok (.bipush 12, 2) := by decide +kernel
theorem dX0_init_29 : decode cX0_init 29 = .ok (.anewarray 9, 3) := by decide +kernel
theorem dX0_init_32 : decode cX0_init 32 = .ok (.putfield 21, 3) := by decide +kernel
theorem w_190 : Cond.fieldLink "QuarterWalks$Book" 21 "QuarterWalks$Book" "before" "[LQuarterWalks$Shelf;" ∈ wAll := wIn 190 (by decide +kernel) (by decide +kernel)
theorem flw_X0_21 : flw RX0 21 1 3 (.array (.object "QuarterWalks$Shelf")) := ⟨RX0, TX0, 6, tyX0, rfl, inA_X0, by decide, w_190, tyX0_ok, nmX0, by decide +kernel, Or.inr ⟨rfl, rfl⟩⟩
theorem dX0_init_35 : decode cX0_init 35 = .ok (.iconst 0, 1) := by decide +kernel
theorem dX0_init_36 : decode cX0_init 36 = .ok (.istore_n 1, 1) := by decide +kernel
theorem dX0_init_37 : decode cX0_init 37 = .ok (.iload_n 1, 1) := by decide +kernel
theorem dX0_init_38 : decode cX0_init 38 = .ok (.bipush 12, 2) := by decide +kernel
theorem dX0_init_40 : decode cX0_init 40 = .ok (.if_icmp .ge 22, 3) := by decide +kernel
theorem dX0_init_43 : decode cX0_init 43 = .ok (.aload_n 0, 1) := by decide +kernel
theorem dX0_init_44 : decode cX0_init 44 = .ok (.getfield 21, 3) := by decide +kernel
theorem fl_X0_21 : fl RX0 21 1 3 := ⟨RX0, TX0, 6, rfl, inA_X0, by decide, w_190⟩
theorem dX0_init_47 : decode cX0_init 47 = .ok (.iload_n 1, 1) := by decide +kernel
theorem dX0_init_48 : decode cX0_init 48 = .ok (.new 9, 3) := by decide +kernel
theorem dX0_init_51 : decode cX0_init 51 = .ok (.dup, 1) := by decide +kernel
theorem dX0_init_52 : decode cX0_init 52 = .ok (.invokespecial 11, 3) := by decide +kernel
theorem dX0_init_55 : decode cX0_init 55 = .ok (.aastore, 1) := by decide +kernel
theorem dX0_init_56 : decode cX0_init 56 = .ok (.iinc 1 1, 3) := by decide +kernel
theorem dX0_init_59 : decode cX0_init 59 = .ok (.goto (-22), 3) := by decide +kernel
theorem dX0_init_62 : decode cX0_init 62 = .ok (.return_, 1) := by decide +kernel

theorem ol_trans {x : Nat} {f0 f g : hM} (hp : Ol x f g) (o : Ol x f0 f) : Ol x f0 g := fun q h1 h2 => by
  have h3 := o q h1 h2
  rw [hp q h1 (by rw [h3]; exact h2)]; exact h3
theorem inner_int (c : ClassId) (k : Nat) : Jvm.Free.Multi.innerC c k (defaultValue .int) = vp_cell c (k, .inl (fun _ => 0)) := by
  rw [vp_cell_i]
  exact arrV_new _ _ _
theorem inner_long (c : ClassId) (k : Nat) : Jvm.Free.Multi.innerC c k (defaultValue .long) = vp_cell c (k, .inr (.inl (fun _ => 0))) := by
  rw [vp_cell_l]
  exact arrV_new _ _ _
theorem some_ne {e : va_E} {f : hM} {a : Nat} (h : f a = some e) : f a ≠ none := fun z => by rw [h] at z; cases z
set_option maxRecDepth 100000 in
set_option maxHeartbeats 4000000 in
theorem c_X7_init (l : Launch) (D : va_G) (G : Nat → Nat) (b0 : Nat) (f : hM) (x : Nat) (kx : f x = some (.inr (8, [.int 0, .null, .null, .int 0, .int 0, .int 0, .int 0]))) : mV l yX7_init cX7_init 1 { frames := 1, cells := 2, slots := 208, locals := 12 } D G b0 f [.ref x] (fun f1 => ∃ (by_ : Nat) (wt : Nat), f1 x = some (.inr (8, [.int 0, .ref by_, .ref wt, .int 0, .int 0, .int 0, .int 0])) ∧ f1 by_ = some (.inl (G 1, 200, .inl (fun _ => 0))) ∧ f1 wt = some (.inl (G 1, 8, .inl (fun _ => 0))) ∧ Ol x f f1) := by
  refine met_of (own := RX7) (by decide) rfl (Nat.le_of_ble_eq_true rfl) ?_
  intro p e s m below meth c ls C hr hini hl h
  have hl : lv_has ls 1 [(0, .ref x)] := hl
  obtain ⟨hx, hb, hml, hown, hts, hE0, hlk⟩ := id C
  have o0 := ol_rf x f
  refine lv_aload_n hx hb dX7_init_0 rfl (lv_at hl 0 rfl) ?_
  refine W.objInit hx hb hown (hts _ w_137) (hts _ w_130) (hts _ w_131) rfl (hl.1.trans hml.symm) rfl dX7_init_1 (Nat.le_of_ble_eq_true rfl) (Nat.le_of_ble_eq_true rfl) ?_
  show W _ _ _ _ _ _ _ _ _ _ _ _ _ _ _ (F0 m 4 ls [])
  refine lv_aload_n hx hb dX7_init_4 rfl (lv_at hl 0 rfl) ?_
  refine lv_sipush (v := 200) hx hb dX7_init_5 (by decide) ?_
  refine q_newa C h (atype := .int) 1 rfl rfl rfl w_161 (a0 := (200, .inl (fun _ => 0))) (fun _ => rfl) (by decide) (N' := 200) (by decide) (Nat.le_of_ble_eq_true rfl) (Nat.le_of_ble_eq_true rfl) (Nat.le_of_ble_eq_true rfl) dX7_init_8 (fun q_1345 H nq_1345 h => ?_)
  generalize ef_1346 : hu f q_1345 (.inl (G 1, 200, .inl (fun _ => 0))) = f_1346 at h
  have d_1348 : x ≠ q_1345 := (hne0 nq_1345 kx)
  have k_1347 : f_1346 x = some (.inr (8, [.int 0, .null, .null, .int 0, .int 0, .int 0, .int 0])) := by rw [← ef_1346]; exact hu_at kx d_1348
  have k_1349 : f_1346 q_1345 = some (.inl (G 1, 200, .inl (fun _ => 0))) := by rw [← ef_1346]; exact hu_self _ _ _
  have z_1351 : f q_1345 = none := ol_none o0 nq_1345 kx
  have o_1350 := ol_upn ef_1346 z_1351 o0
  refine q_put C h k_1347 flw_X7_11 (Or.inl hini) (v := .ref q_1345) rfl rfl (Nat.le_of_ble_eq_true rfl) dX7_init_10 (fun H locs h => ?_)
  have h : hw D b0 s.heap (hu f_1346 x (.inr (8, [.int 0, .ref q_1345, .null, .int 0, .int 0, .int 0, .int 0]))) H locs := h
  generalize ef_1352 : hu f_1346 x (.inr (8, [.int 0, .ref q_1345, .null, .int 0, .int 0, .int 0, .int 0])) = f_1352 at h
  have k_1353 : f_1352 q_1345 = some (.inl (G 1, 200, .inl (fun _ => 0))) := by rw [← ef_1352]; exact hu_at k_1349 (Ne.symm d_1348)
  have k_1354 : f_1352 x = some (.inr (8, [.int 0, .ref q_1345, .null, .int 0, .int 0, .int 0, .int 0])) := by rw [← ef_1352]; exact hu_self _ _ _
  have o_1355 := ol_up ef_1352 o_1350
  refine lv_aload_n hx hb dX7_init_13 rfl (lv_at hl 0 rfl) ?_
  refine lv_bipush (v := 8) hx hb dX7_init_14 (by decide) ?_
  refine q_newa C h (atype := .int) 1 rfl rfl rfl w_161 (a0 := (8, .inl (fun _ => 0))) (fun _ => rfl) (by decide) (N' := 8) (by decide) (Nat.le_of_ble_eq_true rfl) (Nat.le_of_ble_eq_true rfl) (Nat.le_of_ble_eq_true rfl) dX7_init_16 (fun q_1356 H nq_1356 h => ?_)
  generalize ef_1357 : hu f_1352 q_1356 (.inl (G 1, 8, .inl (fun _ => 0))) = f_1357 at h
  have d_1359 : q_1345 ≠ q_1356 := (hne0 nq_1356 k_1353)
  have k_1358 : f_1357 q_1345 = some (.inl (G 1, 200, .inl (fun _ => 0))) := by rw [← ef_1357]; exact hu_at k_1353 d_1359
  have d_1361 : x ≠ q_1356 := (hne0 nq_1356 k_1354)
  have k_1360 : f_1357 x = some (.inr (8, [.int 0, .ref q_1345, .null, .int 0, .int 0, .int 0, .int 0])) := by rw [← ef_1357]; exact hu_at k_1354 d_1361
  have k_1362 : f_1357 q_1356 = some (.inl (G 1, 8, .inl (fun _ => 0))) := by rw [← ef_1357]; exact hu_self _ _ _
  have z_1364 : f q_1356 = none := ol_none o_1355 nq_1356 k_1354
  have o_1363 := ol_upn ef_1357 z_1364 o_1355
  refine q_put C h k_1360 flw_X7_15 (Or.inl hini) (v := .ref q_1356) rfl rfl (Nat.le_of_ble_eq_true rfl) dX7_init_18 (fun H locs h => ?_)
  have h : hw D b0 s.heap (hu f_1357 x (.inr (8, [.int 0, .ref q_1345, .ref q_1356, .int 0, .int 0, .int 0, .int 0]))) H locs := h
  generalize ef_1365 : hu f_1357 x (.inr (8, [.int 0, .ref q_1345, .ref q_1356, .int 0, .int 0, .int 0, .int 0])) = f_1365 at h
  have k_1366 : f_1365 q_1345 = some (.inl (G 1, 200, .inl (fun _ => 0))) := by rw [← ef_1365]; exact hu_at k_1358 (Ne.symm d_1348)
  have k_1367 : f_1365 q_1356 = some (.inl (G 1, 8, .inl (fun _ => 0))) := by rw [← ef_1365]; exact hu_at k_1362 (Ne.symm d_1361)
  have k_1368 : f_1365 x = some (.inr (8, [.int 0, .ref q_1345, .ref q_1356, .int 0, .int 0, .int 0, .int 0])) := by rw [← ef_1365]; exact hu_self _ _ _
  have o_1369 := ol_up ef_1365 o_1363
  exact q_vret C h hr (⟨q_1345, q_1356, k_1368, k_1366, k_1367, o_1369⟩) (Nat.le_of_ble_eq_true rfl) (Nat.le_of_ble_eq_true rfl) dX7_init_21
set_option maxRecDepth 100000 in
set_option maxHeartbeats 4000000 in
theorem c_X5_init (l : Launch) (D : va_G) (G : Nat → Nat) (b0 : Nat) (f : hM) (x : Nat) (kx : f x = some (.inr (6, [.null, .int 0]))) : mV l yX5_init cX5_init 1 { frames := 1, cells := 1, slots := 8, locals := 12 } D G b0 f [.ref x] (fun f1 => ∃ (st : Nat), f1 x = some (.inr (6, [.ref st, .int 0])) ∧ f1 st = some (.inl (G 4, 8, .inr (.inr (.inr (.inr (fun _ => none)))))) ∧ Ol x f f1) := by
  refine met_of (own := RX5) (by decide) rfl (Nat.le_of_ble_eq_true rfl) ?_
  intro p e s m below meth c ls C hr hini hl h
  have hl : lv_has ls 1 [(0, .ref x)] := hl
  obtain ⟨hx, hb, hml, hown, hts, hE0, hlk⟩ := id C
  have o0 := ol_rf x f
  refine lv_aload_n hx hb dX5_init_0 rfl (lv_at hl 0 rfl) ?_
  refine W.objInit hx hb hown (hts _ w_173) (hts _ w_130) (hts _ w_131) rfl (hl.1.trans hml.symm) rfl dX5_init_1 (Nat.le_of_ble_eq_true rfl) (Nat.le_of_ble_eq_true rfl) ?_
  show W _ _ _ _ _ _ _ _ _ _ _ _ _ _ _ (F0 m 4 ls [])
  refine lv_aload_n hx hb dX5_init_4 rfl (lv_at hl 0 rfl) ?_
  refine lv_bipush (v := 8) hx hb dX5_init_5 (by decide) ?_
  refine q_newq C h 4 rfl w_174 C.2.2.2.2.2.1.2.2.2.2.2.1 (by decide) (N' := 8) (by decide) (Nat.le_of_ble_eq_true rfl) (Nat.le_of_ble_eq_true rfl) (Nat.le_of_ble_eq_true rfl) dX5_init_7 (fun q_1370 H nq_1370 h => ?_)
  generalize ef_1371 : hu f q_1370 (.inl (G 4, 8, .inr (.inr (.inr (.inr (fun _ => none)))))) = f_1371 at h
  have d_1373 : x ≠ q_1370 := (hne0 nq_1370 kx)
  have k_1372 : f_1371 x = some (.inr (6, [.null, .int 0])) := by rw [← ef_1371]; exact hu_at kx d_1373
  have k_1374 : f_1371 q_1370 = some (.inl (G 4, 8, .inr (.inr (.inr (.inr (fun _ => none)))))) := by rw [← ef_1371]; exact hu_self _ _ _
  have z_1376 : f q_1370 = none := ol_none o0 nq_1370 kx
  have o_1375 := ol_upn ef_1371 z_1376 o0
  refine q_put C h k_1372 flw_X5_11 (Or.inl hini) (v := .ref q_1370) rfl rfl (Nat.le_of_ble_eq_true rfl) dX5_init_10 (fun H locs h => ?_)
  have h : hw D b0 s.heap (hu f_1371 x (.inr (6, [.ref q_1370, .int 0]))) H locs := h
  generalize ef_1377 : hu f_1371 x (.inr (6, [.ref q_1370, .int 0])) = f_1377 at h
  have k_1378 : f_1377 q_1370 = some (.inl (G 4, 8, .inr (.inr (.inr (.inr (fun _ => none)))))) := by rw [← ef_1377]; exact hu_at k_1374 (Ne.symm d_1373)
  have k_1379 : f_1377 x = some (.inr (6, [.ref q_1370, .int 0])) := by rw [← ef_1377]; exact hu_self _ _ _
  have o_1380 := ol_up ef_1377 o_1375
  exact q_vret C h hr (⟨q_1370, k_1379, k_1378, o_1380⟩) (Nat.le_of_ble_eq_true rfl) (Nat.le_of_ble_eq_true rfl) dX5_init_13
set_option maxRecDepth 100000 in
set_option maxHeartbeats 4000000 in
theorem c_X1_init (l : Launch) (D : va_G) (G : Nat → Nat) (b0 : Nat) (f : hM) (x : Nat) (kx : f x = some (.inr (2, [.int 0, .int 0, .int 0, .int 0]))) : mV l yX1_init cX1_init 1 { frames := 1, cells := 0, slots := 0, locals := 12 } D G b0 f [.ref x] (fun f1 => f1 x = some (.inr (2, [.int 0, .int 0, .int 0, .int 0])) ∧ Ol x f f1) := by
  refine met_of (own := RX1) (by decide) rfl (Nat.le_of_ble_eq_true rfl) ?_
  intro p e s m below meth c ls C hr hini hl h
  have hl : lv_has ls 1 [(0, .ref x)] := hl
  obtain ⟨hx, hb, hml, hown, hts, hE0, hlk⟩ := id C
  have o0 := ol_rf x f
  refine lv_aload_n hx hb dX1_init_0 rfl (lv_at hl 0 rfl) ?_
  refine W.objInit hx hb hown (hts _ w_217) (hts _ w_130) (hts _ w_131) rfl (hl.1.trans hml.symm) rfl dX1_init_1 (Nat.le_of_ble_eq_true rfl) (Nat.le_of_ble_eq_true rfl) ?_
  show W _ _ _ _ _ _ _ _ _ _ _ _ _ _ _ (F0 m 4 ls [])
  exact q_vret C h hr (⟨kx, o0⟩) (Nat.le_of_ble_eq_true rfl) (Nat.le_of_ble_eq_true rfl) dX1_init_4
set_option maxRecDepth 100000 in
set_option maxHeartbeats 4000000 in
theorem c_X8_init (l : Launch) (D : va_G) (G : Nat → Nat) (b0 : Nat) (f : hM) (x : Nat) (kx : f x = some (.inr (9, [.null, .null]))) : mV l yX8_init cX8_init 1 { frames := 1, cells := 2, slots := 80, locals := 12 } D G b0 f [.ref x] (fun f1 => ∃ (xs : Nat) (ys : Nat), f1 x = some (.inr (9, [.ref xs, .ref ys])) ∧ Ol x f f1) := by
  refine met_of (own := RX8) (by decide) rfl (Nat.le_of_ble_eq_true rfl) ?_
  intro p e s m below meth c ls C hr hini hl h
  have hl : lv_has ls 1 [(0, .ref x)] := hl
  obtain ⟨hx, hb, hml, hown, hts, hE0, hlk⟩ := id C
  have o0 := ol_rf x f
  refine lv_aload_n hx hb dX8_init_0 rfl (lv_at hl 0 rfl) ?_
  refine W.objInit hx hb hown (hts _ w_296) (hts _ w_130) (hts _ w_131) rfl (hl.1.trans hml.symm) rfl dX8_init_1 (Nat.le_of_ble_eq_true rfl) (Nat.le_of_ble_eq_true rfl) ?_
  show W _ _ _ _ _ _ _ _ _ _ _ _ _ _ _ (F0 m 4 ls [])
  refine lv_aload_n hx hb dX8_init_4 rfl (lv_at hl 0 rfl) ?_
  refine lv_bipush (v := 40) hx hb dX8_init_5 (by decide) ?_
  refine q_newa C h (atype := .int) 1 rfl rfl rfl w_161 (a0 := (40, .inl (fun _ => 0))) (fun _ => rfl) (by decide) (N' := 40) (by decide) (Nat.le_of_ble_eq_true rfl) (Nat.le_of_ble_eq_true rfl) (Nat.le_of_ble_eq_true rfl) dX8_init_7 (fun q_1381 H nq_1381 h => ?_)
  generalize ef_1382 : hu f q_1381 (.inl (G 1, 40, .inl (fun _ => 0))) = f_1382 at h
  have d_1384 : x ≠ q_1381 := (hne0 nq_1381 kx)
  have k_1383 : f_1382 x = some (.inr (9, [.null, .null])) := by rw [← ef_1382]; exact hu_at kx d_1384
  have k_1385 : f_1382 q_1381 = some (.inl (G 1, 40, .inl (fun _ => 0))) := by rw [← ef_1382]; exact hu_self _ _ _
  have z_1387 : f q_1381 = none := ol_none o0 nq_1381 kx
  have o_1386 := ol_upn ef_1382 z_1387 o0
  refine q_put C h k_1383 flw_X8_11 (Or.inl hini) (v := .ref q_1381) rfl rfl (Nat.le_of_ble_eq_true rfl) dX8_init_9 (fun H locs h => ?_)
  have h : hw D b0 s.heap (hu f_1382 x (.inr (9, [.ref q_1381, .null]))) H locs := h
  generalize ef_1388 : hu f_1382 x (.inr (9, [.ref q_1381, .null])) = f_1388 at h
  have k_1389 : f_1388 q_1381 = some (.inl (G 1, 40, .inl (fun _ => 0))) := by rw [← ef_1388]; exact hu_at k_1385 (Ne.symm d_1384)
  have k_1390 : f_1388 x = some (.inr (9, [.ref q_1381, .null])) := by rw [← ef_1388]; exact hu_self _ _ _
  have o_1391 := ol_up ef_1388 o_1386
  refine lv_aload_n hx hb dX8_init_12 rfl (lv_at hl 0 rfl) ?_
  refine lv_bipush (v := 40) hx hb dX8_init_13 (by decide) ?_
  refine q_newa C h (atype := .int) 1 rfl rfl rfl w_161 (a0 := (40, .inl (fun _ => 0))) (fun _ => rfl) (by decide) (N' := 40) (by decide) (Nat.le_of_ble_eq_true rfl) (Nat.le_of_ble_eq_true rfl) (Nat.le_of_ble_eq_true rfl) dX8_init_15 (fun q_1392 H nq_1392 h => ?_)
  generalize ef_1393 : hu f_1388 q_1392 (.inl (G 1, 40, .inl (fun _ => 0))) = f_1393 at h
  have d_1395 : q_1381 ≠ q_1392 := (hne0 nq_1392 k_1389)
  have k_1394 : f_1393 q_1381 = some (.inl (G 1, 40, .inl (fun _ => 0))) := by rw [← ef_1393]; exact hu_at k_1389 d_1395
  have d_1397 : x ≠ q_1392 := (hne0 nq_1392 k_1390)
  have k_1396 : f_1393 x = some (.inr (9, [.ref q_1381, .null])) := by rw [← ef_1393]; exact hu_at k_1390 d_1397
  have k_1398 : f_1393 q_1392 = some (.inl (G 1, 40, .inl (fun _ => 0))) := by rw [← ef_1393]; exact hu_self _ _ _
  have z_1400 : f q_1392 = none := ol_none o_1391 nq_1392 k_1390
  have o_1399 := ol_upn ef_1393 z_1400 o_1391
  refine q_put C h k_1396 flw_X8_15 (Or.inl hini) (v := .ref q_1392) rfl rfl (Nat.le_of_ble_eq_true rfl) dX8_init_17 (fun H locs h => ?_)
  have h : hw D b0 s.heap (hu f_1393 x (.inr (9, [.ref q_1381, .ref q_1392]))) H locs := h
  generalize ef_1401 : hu f_1393 x (.inr (9, [.ref q_1381, .ref q_1392])) = f_1401 at h
  have k_1402 : f_1401 q_1381 = some (.inl (G 1, 40, .inl (fun _ => 0))) := by rw [← ef_1401]; exact hu_at k_1394 (Ne.symm d_1384)
  have k_1403 : f_1401 q_1392 = some (.inl (G 1, 40, .inl (fun _ => 0))) := by rw [← ef_1401]; exact hu_at k_1398 (Ne.symm d_1397)
  have k_1404 : f_1401 x = some (.inr (9, [.ref q_1381, .ref q_1392])) := by rw [← ef_1401]; exact hu_self _ _ _
  have o_1405 := ol_up ef_1401 o_1399
  exact q_vret C h hr (⟨q_1381, q_1392, k_1404, o_1405⟩) (Nat.le_of_ble_eq_true rfl) (Nat.le_of_ble_eq_true rfl) dX8_init_20
set_option maxRecDepth 100000 in
set_option maxHeartbeats 4000000 in
theorem c_X9_init (l : Launch) (D : va_G) (G : Nat → Nat) (b0 : Nat) (f : hM) (x : Nat) (kx : f x = some (.inr (10, [.null, .int 0, .int 0, .int 0]))) : mV l yX9_init cX9_init 1 { frames := 1, cells := 12, slots := 4862, locals := 12 } D G b0 f [.ref x] (fun f1 => ∃ (ow : Nat), f1 x = some (.inr (10, [.ref ow, .int 0, .int 0, .int 0])) ∧ Ol x f f1) := by
  refine met_of (own := RX9) (by decide) rfl (Nat.le_of_ble_eq_true rfl) ?_
  intro p e s m below meth c ls C hr hini hl h
  have hl : lv_has ls 1 [(0, .ref x)] := hl
  obtain ⟨hx, hb, hml, hown, hts, hE0, hlk⟩ := id C
  have o0 := ol_rf x f
  refine lv_aload_n hx hb dX9_init_0 rfl (lv_at hl 0 rfl) ?_
  refine W.objInit hx hb hown (hts _ w_275) (hts _ w_130) (hts _ w_131) rfl (hl.1.trans hml.symm) rfl dX9_init_1 (Nat.le_of_ble_eq_true rfl) (Nat.le_of_ble_eq_true rfl) ?_
  show W _ _ _ _ _ _ _ _ _ _ _ _ _ _ _ (F0 m 4 ls [])
  refine lv_aload_n hx hb dX9_init_4 rfl (lv_at hl 0 rfl) ?_
  refine lv_bipush (v := 11) hx hb dX9_init_5 (by decide) ?_
  refine lv_sipush (v := 441) hx hb dX9_init_7 (by decide) ?_
  refine q_mna C h (ty := .int) (cA := G 5) (cI := G 1) 5 1 rfl (fun z => z) (hE0.1.2 1 _ rfl).2 w_276 hE0.2.2.2.2.2.2.1 w_161 (z := (441, .inl (fun _ => 0))) (by decide) (by decide) (N' := 11) (K' := 441) (by decide) (by decide) (Nat.le_of_ble_eq_true rfl) (Nat.le_of_ble_eq_true rfl) (Nat.le_of_ble_eq_true rfl) rfl rfl (Nat.le_of_ble_eq_true rfl) (Nat.le_of_ble_eq_true rfl) (fun c => inner_int c 441) dX9_init_10 (fun q_1406 H nq_1406 h => ?_)
  generalize ef_1407 : hmn f q_1406 _ _ _ = f_1407 at h
  have k_1408 : f_1407 x = some (.inr (10, [.null, .int 0, .int 0, .int 0])) := by rw [← ef_1407]; exact hmn_old nq_1406 kx
  have k_1409 : f_1407 q_1406 = some (.inl (G 5, 11, .inr (.inr (.inr (.inr (fun i => if i < 11 then some (q_1406 + 1 + i) else none)))))) := by rw [← ef_1407]; exact hmn_self
  have o_1410 := ol_mna ef_1407 nq_1406 o0
  refine q_put C h k_1408 flw_X9_13 (Or.inl hini) (v := .ref q_1406) rfl rfl (Nat.le_of_ble_eq_true rfl) dX9_init_14 (fun H locs h => ?_)
  have h : hw D b0 s.heap (hu f_1407 x (.inr (10, [.ref q_1406, .int 0, .int 0, .int 0]))) H locs := h
  generalize ef_1411 : hu f_1407 x (.inr (10, [.ref q_1406, .int 0, .int 0, .int 0])) = f_1411 at h
  have k_1412 : f_1411 q_1406 = some (.inl (G 5, 11, .inr (.inr (.inr (.inr (fun i => if i < 11 then some (q_1406 + 1 + i) else none)))))) := by rw [← ef_1411]; exact hu_at k_1409 (hne (4, 10) (3, 11) k_1408 k_1409 rfl rfl (by decide))
  have k_1413 : f_1411 x = some (.inr (10, [.ref q_1406, .int 0, .int 0, .int 0])) := by rw [← ef_1411]; exact hu_self _ _ _
  have o_1414 := ol_up ef_1411 o_1410
  exact q_vret C h hr (⟨q_1406, k_1413, o_1414⟩) (Nat.le_of_ble_eq_true rfl) (Nat.le_of_ble_eq_true rfl) dX9_init_17
set_option maxRecDepth 100000 in
set_option maxHeartbeats 4000000 in
theorem c_X4_init (l : Launch) (D : va_G) (G : Nat → Nat) (b0 : Nat) (f : hM) (x : Nat) (kx : f x = some (.inr (5, [.null, .int 0, .int 0, .int 0]))) : mV l yX4_init cX4_init 1 { frames := 1, cells := 33, slots := 928, locals := 12 } D G b0 f [.ref x] (fun f1 => ∃ (ce : Nat), f1 x = some (.inr (5, [.ref ce, .int 0, .int 0, .int 0])) ∧ Ol x f f1) := by
  refine met_of (own := RX4) (by decide) rfl (Nat.le_of_ble_eq_true rfl) ?_
  intro p e s m below meth c ls C hr hini hl h
  have hl : lv_has ls 1 [(0, .ref x)] := hl
  obtain ⟨hx, hb, hml, hown, hts, hE0, hlk⟩ := id C
  have o0 := ol_rf x f
  refine lv_aload_n hx hb dX4_init_0 rfl (lv_at hl 0 rfl) ?_
  refine W.objInit hx hb hown (hts _ w_311) (hts _ w_130) (hts _ w_131) rfl (hl.1.trans hml.symm) rfl dX4_init_1 (Nat.le_of_ble_eq_true rfl) (Nat.le_of_ble_eq_true rfl) ?_
  show W _ _ _ _ _ _ _ _ _ _ _ _ _ _ _ (F0 m 4 ls [])
  refine lv_aload_n hx hb dX4_init_4 rfl (lv_at hl 0 rfl) ?_
  refine lv_bipush (v := 32) hx hb dX4_init_5 (by decide) ?_
  refine lv_bipush (v := 28) hx hb dX4_init_7 (by decide) ?_
  refine q_mna C h (ty := .long) (cA := G 6) (cI := G 2) 6 2 rfl (fun z => z) (hE0.1.2 2 _ rfl).2 w_312 hE0.2.2.2.2.2.2.2.1 w_235 (z := (28, .inr (.inl (fun _ => 0)))) (by decide) (by decide) (N' := 32) (K' := 28) (by decide) (by decide) (Nat.le_of_ble_eq_true rfl) (Nat.le_of_ble_eq_true rfl) (Nat.le_of_ble_eq_true rfl) rfl rfl (Nat.le_of_ble_eq_true rfl) (Nat.le_of_ble_eq_true rfl) (fun c => inner_long c 28) dX4_init_9 (fun q_1415 H nq_1415 h => ?_)
  generalize ef_1416 : hmn f q_1415 _ _ _ = f_1416 at h
  have k_1417 : f_1416 x = some (.inr (5, [.null, .int 0, .int 0, .int 0])) := by rw [← ef_1416]; exact hmn_old nq_1415 kx
  have k_1418 : f_1416 q_1415 = some (.inl (G 6, 32, .inr (.inr (.inr (.inr (fun i => if i < 32 then some (q_1415 + 1 + i) else none)))))) := by rw [← ef_1416]; exact hmn_self
  have o_1419 := ol_mna ef_1416 nq_1415 o0
  refine q_put C h k_1417 flw_X4_13 (Or.inl hini) (v := .ref q_1415) rfl rfl (Nat.le_of_ble_eq_true rfl) dX4_init_13 (fun H locs h => ?_)
  have h : hw D b0 s.heap (hu f_1416 x (.inr (5, [.ref q_1415, .int 0, .int 0, .int 0]))) H locs := h
  generalize ef_1420 : hu f_1416 x (.inr (5, [.ref q_1415, .int 0, .int 0, .int 0])) = f_1420 at h
  have k_1421 : f_1420 q_1415 = some (.inl (G 6, 32, .inr (.inr (.inr (.inr (fun i => if i < 32 then some (q_1415 + 1 + i) else none)))))) := by rw [← ef_1420]; exact hu_at k_1418 (hne (4, 5) (3, 32) k_1417 k_1418 rfl rfl (by decide))
  have k_1422 : f_1420 x = some (.inr (5, [.ref q_1415, .int 0, .int 0, .int 0])) := by rw [← ef_1420]; exact hu_self _ _ _
  have o_1423 := ol_up ef_1420 o_1419
  exact q_vret C h hr (⟨q_1415, k_1422, o_1423⟩) (Nat.le_of_ble_eq_true rfl) (Nat.le_of_ble_eq_true rfl) dX4_init_16
set_option maxRecDepth 100000 in
set_option maxHeartbeats 4000000 in
theorem c_X2_init (l : Launch) (D : va_G) (G : Nat → Nat) (b0 : Nat) (f : hM) (x : Nat) (kx : f x = some (.inr (3, [.null, .null, .null, .null, .null, .null, .int 0, .int 0, .int 0, .int 0, .int 0]))) : mV l yX2_init cX2_init 1 { frames := 2, cells := 6, slots := 30282, locals := 32 } D G b0 f [.ref x] (fun f1 => ∃ (g0 : Nat) (g1 : Nat) (g2 : Nat) (g3 : Nat) (g4 : Nat) (g5 : Nat), f1 x = some (.inr (3, [.ref g0, .ref g1, .ref g2, .ref g3, .ref g4, .ref g5, .int 0, .int 0, .int 0, .int 0, .int 0])) ∧ Ol x f f1) := by
  refine met_of (own := RX2) (by decide) rfl (Nat.le_of_ble_eq_true rfl) ?_
  intro p e s m below meth c ls C hr hini hl h
  have hl : lv_has ls 1 [(0, .ref x)] := hl
  obtain ⟨hx, hb, hml, hown, hts, hE0, hlk⟩ := id C
  have o0 := ol_rf x f
  refine lv_aload_n hx hb dX2_init_0 rfl (lv_at hl 0 rfl) ?_
  refine W.objInit hx hb hown (hts _ w_211) (hts _ w_130) (hts _ w_131) rfl (hl.1.trans hml.symm) rfl dX2_init_1 (Nat.le_of_ble_eq_true rfl) (Nat.le_of_ble_eq_true rfl) ?_
  show W _ _ _ _ _ _ _ _ _ _ _ _ _ _ _ (F0 m 4 ls [])
  refine lv_aload_n hx hb dX2_init_4 rfl (lv_at hl 0 rfl) ?_
  refine lv_sipush (v := 15129) hx hb dX2_init_5 (by decide) ?_
  refine q_newa C h (atype := .long) 2 rfl rfl rfl w_235 (a0 := (15129, .inr (.inl (fun _ => 0)))) (fun _ => rfl) (by decide) (N' := 15129) (by decide) (Nat.le_of_ble_eq_true rfl) (Nat.le_of_ble_eq_true rfl) (Nat.le_of_ble_eq_true rfl) dX2_init_8 (fun q_1424 H nq_1424 h => ?_)
  generalize ef_1425 : hu f q_1424 (.inl (G 2, 15129, .inr (.inl (fun _ => 0)))) = f_1425 at h
  have d_1427 : x ≠ q_1424 := (hne0 nq_1424 kx)
  have k_1426 : f_1425 x = some (.inr (3, [.null, .null, .null, .null, .null, .null, .int 0, .int 0, .int 0, .int 0, .int 0])) := by rw [← ef_1425]; exact hu_at kx d_1427
  have k_1428 : f_1425 q_1424 = some (.inl (G 2, 15129, .inr (.inl (fun _ => 0)))) := by rw [← ef_1425]; exact hu_self _ _ _
  have z_1430 : f q_1424 = none := ol_none o0 nq_1424 kx
  have o_1429 := ol_upn ef_1425 z_1430 o0
  refine q_put C h k_1426 flw_X2_11 (Or.inr ⟨_, _, _, rfl, rfl⟩) (v := .ref q_1424) rfl rfl (Nat.le_of_ble_eq_true rfl) dX2_init_10 (fun H locs h => ?_)
  have h : hw D b0 s.heap (hu f_1425 x (.inr (3, [.ref q_1424, .null, .null, .null, .null, .null, .int 0, .int 0, .int 0, .int 0, .int 0]))) H locs := h
  generalize ef_1431 : hu f_1425 x (.inr (3, [.ref q_1424, .null, .null, .null, .null, .null, .int 0, .int 0, .int 0, .int 0, .int 0])) = f_1431 at h
  have k_1432 : f_1431 q_1424 = some (.inl (G 2, 15129, .inr (.inl (fun _ => 0)))) := by rw [← ef_1431]; exact hu_at k_1428 (Ne.symm d_1427)
  have k_1433 : f_1431 x = some (.inr (3, [.ref q_1424, .null, .null, .null, .null, .null, .int 0, .int 0, .int 0, .int 0, .int 0])) := by rw [← ef_1431]; exact hu_self _ _ _
  have o_1434 := ol_up ef_1431 o_1429
  refine lv_aload_n hx hb dX2_init_13 rfl (lv_at hl 0 rfl) ?_
  refine lv_sipush (v := 15129) hx hb dX2_init_14 (by decide) ?_
  refine q_newa C h (atype := .long) 2 rfl rfl rfl w_235 (a0 := (15129, .inr (.inl (fun _ => 0)))) (fun _ => rfl) (by decide) (N' := 15129) (by decide) (Nat.le_of_ble_eq_true rfl) (Nat.le_of_ble_eq_true rfl) (Nat.le_of_ble_eq_true rfl) dX2_init_17 (fun q_1435 H nq_1435 h => ?_)
  generalize ef_1436 : hu f_1431 q_1435 (.inl (G 2, 15129, .inr (.inl (fun _ => 0)))) = f_1436 at h
  have d_1438 : q_1424 ≠ q_1435 := (hne0 nq_1435 k_1432)
  have k_1437 : f_1436 q_1424 = some (.inl (G 2, 15129, .inr (.inl (fun _ => 0)))) := by rw [← ef_1436]; exact hu_at k_1432 d_1438
  have d_1440 : x ≠ q_1435 := (hne0 nq_1435 k_1433)
  have k_1439 : f_1436 x = some (.inr (3, [.ref q_1424, .null, .null, .null, .null, .null, .int 0, .int 0, .int 0, .int 0, .int 0])) := by rw [← ef_1436]; exact hu_at k_1433 d_1440
  have k_1441 : f_1436 q_1435 = some (.inl (G 2, 15129, .inr (.inl (fun _ => 0)))) := by rw [← ef_1436]; exact hu_self _ _ _
  have z_1443 : f q_1435 = none := ol_none o_1434 nq_1435 k_1433
  have o_1442 := ol_upn ef_1436 z_1443 o_1434
  refine q_put C h k_1439 flw_X2_15 (Or.inr ⟨_, _, _, rfl, rfl⟩) (v := .ref q_1435) rfl rfl (Nat.le_of_ble_eq_true rfl) dX2_init_19 (fun H locs h => ?_)
  have h : hw D b0 s.heap (hu f_1436 x (.inr (3, [.ref q_1424, .ref q_1435, .null, .null, .null, .null, .int 0, .int 0, .int 0, .int 0, .int 0]))) H locs := h
  generalize ef_1444 : hu f_1436 x (.inr (3, [.ref q_1424, .ref q_1435, .null, .null, .null, .null, .int 0, .int 0, .int 0, .int 0, .int 0])) = f_1444 at h
  have k_1445 : f_1444 q_1424 = some (.inl (G 2, 15129, .inr (.inl (fun _ => 0)))) := by rw [← ef_1444]; exact hu_at k_1437 (Ne.symm d_1427)
  have k_1446 : f_1444 q_1435 = some (.inl (G 2, 15129, .inr (.inl (fun _ => 0)))) := by rw [← ef_1444]; exact hu_at k_1441 (Ne.symm d_1440)
  have k_1447 : f_1444 x = some (.inr (3, [.ref q_1424, .ref q_1435, .null, .null, .null, .null, .int 0, .int 0, .int 0, .int 0, .int 0])) := by rw [← ef_1444]; exact hu_self _ _ _
  have o_1448 := ol_up ef_1444 o_1442
  refine lv_aload_n hx hb dX2_init_22 rfl (lv_at hl 0 rfl) ?_
  refine q_new C h nw_X2_18 (Nat.le_of_ble_eq_true rfl) (Nat.le_of_ble_eq_true rfl) dX2_init_23 (fun q_1449 H nq_1449 h => ?_)
  generalize ef_1450 : hu f_1444 q_1449 (.inr (2, [.int 0, .int 0, .int 0, .int 0])) = f_1450 at h
  have d_1452 : q_1424 ≠ q_1449 := (hne0 nq_1449 k_1445)
  have k_1451 : f_1450 q_1424 = some (.inl (G 2, 15129, .inr (.inl (fun _ => 0)))) := by rw [← ef_1450]; exact hu_at k_1445 d_1452
  have d_1454 : q_1435 ≠ q_1449 := (hne0 nq_1449 k_1446)
  have k_1453 : f_1450 q_1435 = some (.inl (G 2, 15129, .inr (.inl (fun _ => 0)))) := by rw [← ef_1450]; exact hu_at k_1446 d_1454
  have d_1456 : x ≠ q_1449 := (hne0 nq_1449 k_1447)
  have k_1455 : f_1450 x = some (.inr (3, [.ref q_1424, .ref q_1435, .null, .null, .null, .null, .int 0, .int 0, .int 0, .int 0, .int 0])) := by rw [← ef_1450]; exact hu_at k_1447 d_1456
  have k_1457 : f_1450 q_1449 = some (.inr (2, [.int 0, .int 0, .int 0, .int 0])) := by rw [← ef_1450]; exact hu_self _ _ _
  have z_1459 : f q_1449 = none := ol_none o_1448 nq_1449 k_1447
  have o_1458 := ol_upn ef_1450 z_1459 o_1448
  refine lv_dup hx hb dX2_init_26 rfl ?_
  refine k_v (r_IN C h hl (host := "QuarterWalks") (As := []) (rest := [.ref q_1449, .ref x]) (c_X1_init l D G b0 f_1450 q_1449 k_1457) mk_X1_init rfl (by decide) w_215 w_216 ⟨Nat.le_of_ble_eq_true rfl, Nat.le_of_ble_eq_true rfl⟩ rfl (Nat.le_of_ble_eq_true rfl) ⟨Nat.le_of_ble_eq_true rfl, Nat.le_of_ble_eq_true rfl⟩ rfl dX2_init_27) h (fun f_1461 H locs p_1462 h => ?_)
  obtain ⟨k_1463, u_1464⟩ := p_1462
  have k_1465 : f_1461 q_1424 = some (.inl (G 2, 15129, .inr (.inl (fun _ => 0)))) := ol_at u_1464 k_1451 d_1452
  have k_1466 : f_1461 q_1435 = some (.inl (G 2, 15129, .inr (.inl (fun _ => 0)))) := ol_at u_1464 k_1453 d_1454
  have k_1467 : f_1461 x = some (.inr (3, [.ref q_1424, .ref q_1435, .null, .null, .null, .null, .int 0, .int 0, .int 0, .int 0, .int 0])) := ol_at u_1464 k_1455 d_1456
  have o_1468 := ol_rel u_1464 z_1459 o_1458
  refine q_put C h k_1467 flw_X2_21 (Or.inl hini) (v := .ref q_1449) rfl rfl (Nat.le_of_ble_eq_true rfl) dX2_init_30 (fun H locs h => ?_)
  have h : hw D b0 s.heap (hu f_1461 x (.inr (3, [.ref q_1424, .ref q_1435, .ref q_1449, .null, .null, .null, .int 0, .int 0, .int 0, .int 0, .int 0]))) H locs := h
  generalize ef_1469 : hu f_1461 x (.inr (3, [.ref q_1424, .ref q_1435, .ref q_1449, .null, .null, .null, .int 0, .int 0, .int 0, .int 0, .int 0])) = f_1469 at h
  have k_1470 : f_1469 q_1424 = some (.inl (G 2, 15129, .inr (.inl (fun _ => 0)))) := by rw [← ef_1469]; exact hu_at k_1465 (Ne.symm d_1427)
  have k_1471 : f_1469 q_1435 = some (.inl (G 2, 15129, .inr (.inl (fun _ => 0)))) := by rw [← ef_1469]; exact hu_at k_1466 (Ne.symm d_1440)
  have k_1472 : f_1469 q_1449 = some (.inr (2, [.int 0, .int 0, .int 0, .int 0])) := by rw [← ef_1469]; exact hu_at k_1463 (Ne.symm d_1456)
  have k_1473 : f_1469 x = some (.inr (3, [.ref q_1424, .ref q_1435, .ref q_1449, .null, .null, .null, .int 0, .int 0, .int 0, .int 0, .int 0])) := by rw [← ef_1469]; exact hu_self _ _ _
  have o_1474 := ol_up ef_1469 o_1468
  refine lv_aload_n hx hb dX2_init_33 rfl (lv_at hl 0 rfl) ?_
  refine q_new C h nw_X2_18 (Nat.le_of_ble_eq_true rfl) (Nat.le_of_ble_eq_true rfl) dX2_init_34 (fun q_1475 H nq_1475 h => ?_)
  generalize ef_1476 : hu f_1469 q_1475 (.inr (2, [.int 0, .int 0, .int 0, .int 0])) = f_1476 at h
  have d_1478 : q_1424 ≠ q_1475 := (hne0 nq_1475 k_1470)
  have k_1477 : f_1476 q_1424 = some (.inl (G 2, 15129, .inr (.inl (fun _ => 0)))) := by rw [← ef_1476]; exact hu_at k_1470 d_1478
  have d_1480 : q_1435 ≠ q_1475 := (hne0 nq_1475 k_1471)
  have k_1479 : f_1476 q_1435 = some (.inl (G 2, 15129, .inr (.inl (fun _ => 0)))) := by rw [← ef_1476]; exact hu_at k_1471 d_1480
  have d_1482 : q_1449 ≠ q_1475 := (hne0 nq_1475 k_1472)
  have k_1481 : f_1476 q_1449 = some (.inr (2, [.int 0, .int 0, .int 0, .int 0])) := by rw [← ef_1476]; exact hu_at k_1472 d_1482
  have d_1484 : x ≠ q_1475 := (hne0 nq_1475 k_1473)
  have k_1483 : f_1476 x = some (.inr (3, [.ref q_1424, .ref q_1435, .ref q_1449, .null, .null, .null, .int 0, .int 0, .int 0, .int 0, .int 0])) := by rw [← ef_1476]; exact hu_at k_1473 d_1484
  have k_1485 : f_1476 q_1475 = some (.inr (2, [.int 0, .int 0, .int 0, .int 0])) := by rw [← ef_1476]; exact hu_self _ _ _
  have z_1487 : f q_1475 = none := ol_none o_1474 nq_1475 k_1473
  have o_1486 := ol_upn ef_1476 z_1487 o_1474
  refine lv_dup hx hb dX2_init_37 rfl ?_
  refine k_v (r_IN C h hl (host := "QuarterWalks") (As := []) (rest := [.ref q_1475, .ref x]) (c_X1_init l D G b0 f_1476 q_1475 k_1485) mk_X1_init rfl (by decide) w_215 w_216 ⟨Nat.le_of_ble_eq_true rfl, Nat.le_of_ble_eq_true rfl⟩ rfl (Nat.le_of_ble_eq_true rfl) ⟨Nat.le_of_ble_eq_true rfl, Nat.le_of_ble_eq_true rfl⟩ rfl dX2_init_38) h (fun f_1489 H locs p_1490 h => ?_)
  obtain ⟨k_1491, u_1492⟩ := p_1490
  have k_1493 : f_1489 q_1424 = some (.inl (G 2, 15129, .inr (.inl (fun _ => 0)))) := ol_at u_1492 k_1477 d_1478
  have k_1494 : f_1489 q_1435 = some (.inl (G 2, 15129, .inr (.inl (fun _ => 0)))) := ol_at u_1492 k_1479 d_1480
  have k_1495 : f_1489 q_1449 = some (.inr (2, [.int 0, .int 0, .int 0, .int 0])) := ol_at u_1492 k_1481 d_1482
  have k_1496 : f_1489 x = some (.inr (3, [.ref q_1424, .ref q_1435, .ref q_1449, .null, .null, .null, .int 0, .int 0, .int 0, .int 0, .int 0])) := ol_at u_1492 k_1483 d_1484
  have o_1497 := ol_rel u_1492 z_1487 o_1486
  refine q_put C h k_1496 flw_X2_25 (Or.inl hini) (v := .ref q_1475) rfl rfl (Nat.le_of_ble_eq_true rfl) dX2_init_41 (fun H locs h => ?_)
  have h : hw D b0 s.heap (hu f_1489 x (.inr (3, [.ref q_1424, .ref q_1435, .ref q_1449, .ref q_1475, .null, .null, .int 0, .int 0, .int 0, .int 0, .int 0]))) H locs := h
  generalize ef_1498 : hu f_1489 x (.inr (3, [.ref q_1424, .ref q_1435, .ref q_1449, .ref q_1475, .null, .null, .int 0, .int 0, .int 0, .int 0, .int 0])) = f_1498 at h
  have k_1499 : f_1498 q_1424 = some (.inl (G 2, 15129, .inr (.inl (fun _ => 0)))) := by rw [← ef_1498]; exact hu_at k_1493 (Ne.symm d_1427)
  have k_1500 : f_1498 q_1435 = some (.inl (G 2, 15129, .inr (.inl (fun _ => 0)))) := by rw [← ef_1498]; exact hu_at k_1494 (Ne.symm d_1440)
  have k_1501 : f_1498 q_1449 = some (.inr (2, [.int 0, .int 0, .int 0, .int 0])) := by rw [← ef_1498]; exact hu_at k_1495 (Ne.symm d_1456)
  have k_1502 : f_1498 q_1475 = some (.inr (2, [.int 0, .int 0, .int 0, .int 0])) := by rw [← ef_1498]; exact hu_at k_1491 (Ne.symm d_1484)
  have k_1503 : f_1498 x = some (.inr (3, [.ref q_1424, .ref q_1435, .ref q_1449, .ref q_1475, .null, .null, .int 0, .int 0, .int 0, .int 0, .int 0])) := by rw [← ef_1498]; exact hu_self _ _ _
  have o_1504 := ol_up ef_1498 o_1497
  refine lv_aload_n hx hb dX2_init_44 rfl (lv_at hl 0 rfl) ?_
  refine lv_bipush (v := 8) hx hb dX2_init_45 (by decide) ?_
  refine q_newa C h (atype := .int) 1 rfl rfl rfl w_161 (a0 := (8, .inl (fun _ => 0))) (fun _ => rfl) (by decide) (N' := 8) (by decide) (Nat.le_of_ble_eq_true rfl) (Nat.le_of_ble_eq_true rfl) (Nat.le_of_ble_eq_true rfl) dX2_init_47 (fun q_1505 H nq_1505 h => ?_)
  generalize ef_1506 : hu f_1498 q_1505 (.inl (G 1, 8, .inl (fun _ => 0))) = f_1506 at h
  have d_1508 : q_1424 ≠ q_1505 := (hne0 nq_1505 k_1499)
  have k_1507 : f_1506 q_1424 = some (.inl (G 2, 15129, .inr (.inl (fun _ => 0)))) := by rw [← ef_1506]; exact hu_at k_1499 d_1508
  have d_1510 : q_1435 ≠ q_1505 := (hne0 nq_1505 k_1500)
  have k_1509 : f_1506 q_1435 = some (.inl (G 2, 15129, .inr (.inl (fun _ => 0)))) := by rw [← ef_1506]; exact hu_at k_1500 d_1510
  have d_1512 : q_1449 ≠ q_1505 := (hne0 nq_1505 k_1501)
  have k_1511 : f_1506 q_1449 = some (.inr (2, [.int 0, .int 0, .int 0, .int 0])) := by rw [← ef_1506]; exact hu_at k_1501 d_1512
  have d_1514 : q_1475 ≠ q_1505 := (hne0 nq_1505 k_1502)
  have k_1513 : f_1506 q_1475 = some (.inr (2, [.int 0, .int 0, .int 0, .int 0])) := by rw [← ef_1506]; exact hu_at k_1502 d_1514
  have d_1516 : x ≠ q_1505 := (hne0 nq_1505 k_1503)
  have k_1515 : f_1506 x = some (.inr (3, [.ref q_1424, .ref q_1435, .ref q_1449, .ref q_1475, .null, .null, .int 0, .int 0, .int 0, .int 0, .int 0])) := by rw [← ef_1506]; exact hu_at k_1503 d_1516
  have k_1517 : f_1506 q_1505 = some (.inl (G 1, 8, .inl (fun _ => 0))) := by rw [← ef_1506]; exact hu_self _ _ _
  have z_1519 : f q_1505 = none := ol_none o_1504 nq_1505 k_1503
  have o_1518 := ol_upn ef_1506 z_1519 o_1504
  refine q_put C h k_1515 flw_X2_28 (Or.inl hini) (v := .ref q_1505) rfl rfl (Nat.le_of_ble_eq_true rfl) dX2_init_49 (fun H locs h => ?_)
  have h : hw D b0 s.heap (hu f_1506 x (.inr (3, [.ref q_1424, .ref q_1435, .ref q_1449, .ref q_1475, .ref q_1505, .null, .int 0, .int 0, .int 0, .int 0, .int 0]))) H locs := h
  generalize ef_1520 : hu f_1506 x (.inr (3, [.ref q_1424, .ref q_1435, .ref q_1449, .ref q_1475, .ref q_1505, .null, .int 0, .int 0, .int 0, .int 0, .int 0])) = f_1520 at h
  have k_1521 : f_1520 q_1424 = some (.inl (G 2, 15129, .inr (.inl (fun _ => 0)))) := by rw [← ef_1520]; exact hu_at k_1507 (Ne.symm d_1427)
  have k_1522 : f_1520 q_1435 = some (.inl (G 2, 15129, .inr (.inl (fun _ => 0)))) := by rw [← ef_1520]; exact hu_at k_1509 (Ne.symm d_1440)
  have k_1523 : f_1520 q_1449 = some (.inr (2, [.int 0, .int 0, .int 0, .int 0])) := by rw [← ef_1520]; exact hu_at k_1511 (Ne.symm d_1456)
  have k_1524 : f_1520 q_1475 = some (.inr (2, [.int 0, .int 0, .int 0, .int 0])) := by rw [← ef_1520]; exact hu_at k_1513 (Ne.symm d_1484)
  have k_1525 : f_1520 q_1505 = some (.inl (G 1, 8, .inl (fun _ => 0))) := by rw [← ef_1520]; exact hu_at k_1517 (Ne.symm d_1516)
  have k_1526 : f_1520 x = some (.inr (3, [.ref q_1424, .ref q_1435, .ref q_1449, .ref q_1475, .ref q_1505, .null, .int 0, .int 0, .int 0, .int 0, .int 0])) := by rw [← ef_1520]; exact hu_self _ _ _
  have o_1527 := ol_up ef_1520 o_1518
  refine lv_aload_n hx hb dX2_init_52 rfl (lv_at hl 0 rfl) ?_
  refine lv_bipush (v := 8) hx hb dX2_init_53 (by decide) ?_
  refine q_newa C h (atype := .long) 2 rfl rfl rfl w_235 (a0 := (8, .inr (.inl (fun _ => 0)))) (fun _ => rfl) (by decide) (N' := 8) (by decide) (Nat.le_of_ble_eq_true rfl) (Nat.le_of_ble_eq_true rfl) (Nat.le_of_ble_eq_true rfl) dX2_init_55 (fun q_1528 H nq_1528 h => ?_)
  generalize ef_1529 : hu f_1520 q_1528 (.inl (G 2, 8, .inr (.inl (fun _ => 0)))) = f_1529 at h
  have d_1531 : q_1424 ≠ q_1528 := (hne0 nq_1528 k_1521)
  have k_1530 : f_1529 q_1424 = some (.inl (G 2, 15129, .inr (.inl (fun _ => 0)))) := by rw [← ef_1529]; exact hu_at k_1521 d_1531
  have d_1533 : q_1435 ≠ q_1528 := (hne0 nq_1528 k_1522)
  have k_1532 : f_1529 q_1435 = some (.inl (G 2, 15129, .inr (.inl (fun _ => 0)))) := by rw [← ef_1529]; exact hu_at k_1522 d_1533
  have d_1535 : q_1449 ≠ q_1528 := (hne0 nq_1528 k_1523)
  have k_1534 : f_1529 q_1449 = some (.inr (2, [.int 0, .int 0, .int 0, .int 0])) := by rw [← ef_1529]; exact hu_at k_1523 d_1535
  have d_1537 : q_1475 ≠ q_1528 := (hne0 nq_1528 k_1524)
  have k_1536 : f_1529 q_1475 = some (.inr (2, [.int 0, .int 0, .int 0, .int 0])) := by rw [← ef_1529]; exact hu_at k_1524 d_1537
  have d_1539 : q_1505 ≠ q_1528 := (hne0 nq_1528 k_1525)
  have k_1538 : f_1529 q_1505 = some (.inl (G 1, 8, .inl (fun _ => 0))) := by rw [← ef_1529]; exact hu_at k_1525 d_1539
  have d_1541 : x ≠ q_1528 := (hne0 nq_1528 k_1526)
  have k_1540 : f_1529 x = some (.inr (3, [.ref q_1424, .ref q_1435, .ref q_1449, .ref q_1475, .ref q_1505, .null, .int 0, .int 0, .int 0, .int 0, .int 0])) := by rw [← ef_1529]; exact hu_at k_1526 d_1541
  have k_1542 : f_1529 q_1528 = some (.inl (G 2, 8, .inr (.inl (fun _ => 0)))) := by rw [← ef_1529]; exact hu_self _ _ _
  have z_1544 : f q_1528 = none := ol_none o_1527 nq_1528 k_1526
  have o_1543 := ol_upn ef_1529 z_1544 o_1527
  refine q_put C h k_1540 flw_X2_32 (Or.inl hini) (v := .ref q_1528) rfl rfl (Nat.le_of_ble_eq_true rfl) dX2_init_57 (fun H locs h => ?_)
  have h : hw D b0 s.heap (hu f_1529 x (.inr (3, [.ref q_1424, .ref q_1435, .ref q_1449, .ref q_1475, .ref q_1505, .ref q_1528, .int 0, .int 0, .int 0, .int 0, .int 0]))) H locs := h
  generalize ef_1545 : hu f_1529 x (.inr (3, [.ref q_1424, .ref q_1435, .ref q_1449, .ref q_1475, .ref q_1505, .ref q_1528, .int 0, .int 0, .int 0, .int 0, .int 0])) = f_1545 at h
  have k_1546 : f_1545 q_1424 = some (.inl (G 2, 15129, .inr (.inl (fun _ => 0)))) := by rw [← ef_1545]; exact hu_at k_1530 (Ne.symm d_1427)
  have k_1547 : f_1545 q_1435 = some (.inl (G 2, 15129, .inr (.inl (fun _ => 0)))) := by rw [← ef_1545]; exact hu_at k_1532 (Ne.symm d_1440)
  have k_1548 : f_1545 q_1449 = some (.inr (2, [.int 0, .int 0, .int 0, .int 0])) := by rw [← ef_1545]; exact hu_at k_1534 (Ne.symm d_1456)
  have k_1549 : f_1545 q_1475 = some (.inr (2, [.int 0, .int 0, .int 0, .int 0])) := by rw [← ef_1545]; exact hu_at k_1536 (Ne.symm d_1484)
  have k_1550 : f_1545 q_1505 = some (.inl (G 1, 8, .inl (fun _ => 0))) := by rw [← ef_1545]; exact hu_at k_1538 (Ne.symm d_1516)
  have k_1551 : f_1545 q_1528 = some (.inl (G 2, 8, .inr (.inl (fun _ => 0)))) := by rw [← ef_1545]; exact hu_at k_1542 (Ne.symm d_1541)
  have k_1552 : f_1545 x = some (.inr (3, [.ref q_1424, .ref q_1435, .ref q_1449, .ref q_1475, .ref q_1505, .ref q_1528, .int 0, .int 0, .int 0, .int 0, .int 0])) := by rw [← ef_1545]; exact hu_self _ _ _
  have o_1553 := ol_up ef_1545 o_1543
  exact q_vret C h hr (⟨q_1424, q_1435, q_1449, q_1475, q_1505, q_1528, k_1552, o_1553⟩) (Nat.le_of_ble_eq_true rfl) (Nat.le_of_ble_eq_true rfl) dX2_init_60
set_option maxRecDepth 100000 in
set_option maxHeartbeats 4000000 in
theorem c_X3_init (l : Launch) (D : va_G) (G : Nat → Nat) (b0 : Nat) (f : hM) (x : Nat) (kx : f x = some (.inr (4, [.null, .null, .null, .int 0]))) (mx : Nat) : mV l yX3_init cX3_init 2 { frames := 1, cells := 6, slots := 276, locals := 12 } D G b0 f [.ref x, .ref mx] (fun f1 => ∃ (pw : Nat) (fd : Nat), f1 x = some (.inr (4, [.ref mx, .ref pw, .ref fd, .int 0])) ∧ Ol x f f1) := by
  refine met_of (own := RX3) (by decide) rfl (Nat.le_of_ble_eq_true rfl) ?_
  intro p e s m below meth c ls C hr hini hl h
  have hl : lv_has ls 2 [(0, .ref x), (1, .ref mx)] := hl
  obtain ⟨hx, hb, hml, hown, hts, hE0, hlk⟩ := id C
  have o0 := ol_rf x f
  refine lv_aload_n hx hb dX3_init_0 rfl (lv_at hl 0 rfl) ?_
  refine W.objInit hx hb hown (hts _ w_332) (hts _ w_130) (hts _ w_131) rfl (hl.1.trans hml.symm) rfl dX3_init_1 (Nat.le_of_ble_eq_true rfl) (Nat.le_of_ble_eq_true rfl) ?_
  show W _ _ _ _ _ _ _ _ _ _ _ _ _ _ _ (F0 m 4 ls [])
  refine lv_aload_n hx hb dX3_init_4 rfl (lv_at hl 0 rfl) ?_
  refine lv_aload_n hx hb dX3_init_5 rfl (lv_at hl 1 rfl) ?_
  refine q_put C h kx flw_X3_9 (Or.inl hini) (v := .ref mx) rfl rfl (Nat.le_of_ble_eq_true rfl) dX3_init_6 (fun H locs h => ?_)
  have h : hw D b0 s.heap (hu f x (.inr (4, [.ref mx, .null, .null, .int 0]))) H locs := h
  generalize ef_1554 : hu f x (.inr (4, [.ref mx, .null, .null, .int 0])) = f_1554 at h
  have k_1555 : f_1554 x = some (.inr (4, [.ref mx, .null, .null, .int 0])) := by rw [← ef_1554]; exact hu_self _ _ _
  have o_1556 := ol_up ef_1554 o0
  refine lv_aload_n hx hb dX3_init_9 rfl (lv_at hl 0 rfl) ?_
  refine lv_iconst (v := 4) hx hb dX3_init_10 (by decide) ?_
  refine lv_bipush (v := 61) hx hb dX3_init_11 (by decide) ?_
  refine q_mna C h (ty := .int) (cA := G 5) (cI := G 1) 5 1 rfl (fun z => z) (hE0.1.2 1 _ rfl).2 w_333 hE0.2.2.2.2.2.2.1 w_161 (z := (61, .inl (fun _ => 0))) (by decide) (by decide) (N' := 4) (K' := 61) (by decide) (by decide) (Nat.le_of_ble_eq_true rfl) (Nat.le_of_ble_eq_true rfl) (Nat.le_of_ble_eq_true rfl) rfl rfl (Nat.le_of_ble_eq_true rfl) (Nat.le_of_ble_eq_true rfl) (fun c => inner_int c 61) dX3_init_13 (fun q_1557 H nq_1557 h => ?_)
  generalize ef_1558 : hmn f_1554 q_1557 _ _ _ = f_1558 at h
  have k_1559 : f_1558 x = some (.inr (4, [.ref mx, .null, .null, .int 0])) := by rw [← ef_1558]; exact hmn_old nq_1557 k_1555
  have k_1560 : f_1558 q_1557 = some (.inl (G 5, 4, .inr (.inr (.inr (.inr (fun i => if i < 4 then some (q_1557 + 1 + i) else none)))))) := by rw [← ef_1558]; exact hmn_self
  have o_1561 := ol_mna ef_1558 nq_1557 o_1556
  refine q_put C h k_1559 flw_X3_17 (Or.inl hini) (v := .ref q_1557) rfl rfl (Nat.le_of_ble_eq_true rfl) dX3_init_17 (fun H locs h => ?_)
  have h : hw D b0 s.heap (hu f_1558 x (.inr (4, [.ref mx, .ref q_1557, .null, .int 0]))) H locs := h
  generalize ef_1562 : hu f_1558 x (.inr (4, [.ref mx, .ref q_1557, .null, .int 0])) = f_1562 at h
  have k_1563 : f_1562 q_1557 = some (.inl (G 5, 4, .inr (.inr (.inr (.inr (fun i => if i < 4 then some (q_1557 + 1 + i) else none)))))) := by rw [← ef_1562]; exact hu_at k_1560 (hne (4, 4) (3, 4) k_1559 k_1560 rfl rfl (by decide))
  have k_1564 : f_1562 x = some (.inr (4, [.ref mx, .ref q_1557, .null, .int 0])) := by rw [← ef_1562]; exact hu_self _ _ _
  have o_1565 := ol_up ef_1562 o_1561
  refine lv_aload_n hx hb dX3_init_20 rfl (lv_at hl 0 rfl) ?_
  refine lv_bipush (v := 28) hx hb dX3_init_21 (by decide) ?_
  refine q_newa C h (atype := .int) 1 rfl rfl rfl w_161 (a0 := (28, .inl (fun _ => 0))) (fun _ => rfl) (by decide) (N' := 28) (by decide) (Nat.le_of_ble_eq_true rfl) (Nat.le_of_ble_eq_true rfl) (Nat.le_of_ble_eq_true rfl) dX3_init_23 (fun q_1566 H nq_1566 h => ?_)
  generalize ef_1567 : hu f_1562 q_1566 (.inl (G 1, 28, .inl (fun _ => 0))) = f_1567 at h
  have d_1569 : q_1557 ≠ q_1566 := (hne0 nq_1566 k_1563)
  have k_1568 : f_1567 q_1557 = some (.inl (G 5, 4, .inr (.inr (.inr (.inr (fun i => if i < 4 then some (q_1557 + 1 + i) else none)))))) := by rw [← ef_1567]; exact hu_at k_1563 d_1569
  have d_1571 : x ≠ q_1566 := (hne0 nq_1566 k_1564)
  have k_1570 : f_1567 x = some (.inr (4, [.ref mx, .ref q_1557, .null, .int 0])) := by rw [← ef_1567]; exact hu_at k_1564 d_1571
  have k_1572 : f_1567 q_1566 = some (.inl (G 1, 28, .inl (fun _ => 0))) := by rw [← ef_1567]; exact hu_self _ _ _
  have z_1574 : f q_1566 = none := ol_none o_1565 nq_1566 k_1564
  have o_1573 := ol_upn ef_1567 z_1574 o_1565
  refine q_put C h k_1570 flw_X3_22 (Or.inl hini) (v := .ref q_1566) rfl rfl (Nat.le_of_ble_eq_true rfl) dX3_init_25 (fun H locs h => ?_)
  have h : hw D b0 s.heap (hu f_1567 x (.inr (4, [.ref mx, .ref q_1557, .ref q_1566, .int 0]))) H locs := h
  generalize ef_1575 : hu f_1567 x (.inr (4, [.ref mx, .ref q_1557, .ref q_1566, .int 0])) = f_1575 at h
  have k_1576 : f_1575 q_1557 = some (.inl (G 5, 4, .inr (.inr (.inr (.inr (fun i => if i < 4 then some (q_1557 + 1 + i) else none)))))) := by rw [← ef_1575]; exact hu_at k_1568 (hne (4, 4) (3, 4) k_1570 k_1568 rfl rfl (by decide))
  have k_1577 : f_1575 q_1566 = some (.inl (G 1, 28, .inl (fun _ => 0))) := by rw [← ef_1575]; exact hu_at k_1572 (Ne.symm d_1571)
  have k_1578 : f_1575 x = some (.inr (4, [.ref mx, .ref q_1557, .ref q_1566, .int 0])) := by rw [← ef_1575]; exact hu_self _ _ _
  have o_1579 := ol_up ef_1575 o_1573
  exact q_vret C h hr (⟨q_1557, q_1566, k_1578, o_1579⟩) (Nat.le_of_ble_eq_true rfl) (Nat.le_of_ble_eq_true rfl) dX3_init_28
set_option maxRecDepth 100000 in
set_option maxHeartbeats 4000000 in
theorem c_J5_init_d00df (l : Launch) (D : va_G) (G : Nat → Nat) (b0 : Nat) (f : hM) (x : Nat) (kx : f x = some (.inr (0, [.null, .int 0, .int 0, .int 0]))) : mV l yJ5_init_d00df cJ5_init_d00df 2 { frames := 1, cells := 1, slots := 16, locals := 12 } D G b0 f [.ref x, .int 16] (fun f1 => ∃ (vl : Nat), f1 x = some (.inr (0, [.ref vl, .int 0, .int 0, .int 0])) ∧ Ol x f f1) := by
  refine met_of (own := RJ5) (by decide) rfl (Nat.le_of_ble_eq_true rfl) ?_
  intro p e s m below meth c ls C hr hini hl h
  have hl : lv_has ls 2 [(0, .ref x), (1, .int 16)] := hl
  obtain ⟨hx, hb, hml, hown, hts, hE0, hlk⟩ := id C
  have o0 := ol_rf x f
  refine lv_aload_n hx hb dJ5_init_d00df_0 rfl (lv_at hl 0 rfl) ?_
  refine W.objInit hx hb hown (hts _ w_355) (hts _ w_130) (hts _ w_131) rfl (hl.1.trans hml.symm) rfl dJ5_init_d00df_1 (Nat.le_of_ble_eq_true rfl) (Nat.le_of_ble_eq_true rfl) ?_
  show W _ _ _ _ _ _ _ _ _ _ _ _ _ _ _ (F0 m 4 ls [])
  refine va_gets hx hb hE0.2.1 h.2.2.1 hown (hts _ w_356) (fun _ h9 => h9) dJ5_init_d00df_4 ?_
  refine lv_if_eq (tgt := 25) hx hb dJ5_init_d00df_7 (by decide) (fun c_1580 => ?_) (fun c_1580 => ?_)
  · exact absurd c_1580 (by decide)
  · refine lv_aload_n hx hb dJ5_init_d00df_10 rfl (lv_at hl 0 rfl) ?_
    refine lv_iload_n hx hb dJ5_init_d00df_11 rfl (lv_at hl 1 rfl) ?_
    refine q_newa C h (atype := .byte) 0 rfl rfl rfl w_378 (a0 := (16, .inl (fun _ => 0))) (fun _ => rfl) (by decide) (N' := 16) (by decide) (Nat.le_of_ble_eq_true rfl) (Nat.le_of_ble_eq_true rfl) (Nat.le_of_ble_eq_true rfl) dJ5_init_d00df_12 (fun q_1581 H nq_1581 h => ?_)
    generalize ef_1582 : hu f q_1581 (.inl (G 0, 16, .inl (fun _ => 0))) = f_1582 at h
    have d_1584 : x ≠ q_1581 := (hne0 nq_1581 kx)
    have k_1583 : f_1582 x = some (.inr (0, [.null, .int 0, .int 0, .int 0])) := by rw [← ef_1582]; exact hu_at kx d_1584
    have k_1585 : f_1582 q_1581 = some (.inl (G 0, 16, .inl (fun _ => 0))) := by rw [← ef_1582]; exact hu_self _ _ _
    have z_1587 : f q_1581 = none := ol_none o0 nq_1581 kx
    have o_1586 := ol_upn ef_1582 z_1587 o0
    refine q_put C h k_1583 flw_J5_15 (Or.inr ⟨_, _, _, rfl, rfl⟩) (v := .ref q_1581) rfl rfl (Nat.le_of_ble_eq_true rfl) dJ5_init_d00df_14 (fun H locs h => ?_)
    have h : hw D b0 s.heap (hu f_1582 x (.inr (0, [.ref q_1581, .int 0, .int 0, .int 0]))) H locs := h
    generalize ef_1588 : hu f_1582 x (.inr (0, [.ref q_1581, .int 0, .int 0, .int 0])) = f_1588 at h
    have k_1589 : f_1588 q_1581 = some (.inl (G 0, 16, .inl (fun _ => 0))) := by rw [← ef_1588]; exact hu_at k_1585 (Ne.symm d_1584)
    have k_1590 : f_1588 x = some (.inr (0, [.ref q_1581, .int 0, .int 0, .int 0])) := by rw [← ef_1588]; exact hu_self _ _ _
    have o_1591 := ol_up ef_1588 o_1586
    refine lv_aload_n hx hb dJ5_init_d00df_17 rfl (lv_at hl 0 rfl) ?_
    refine lv_iconst (v := 0) hx hb dJ5_init_d00df_18 (by decide) ?_
    refine q_put C h k_1590 flw_J5_22 (Or.inr ⟨_, _, _, rfl, rfl⟩) (v := .int 0) rfl rfl (Nat.le_of_ble_eq_true rfl) dJ5_init_d00df_19 (fun H locs h => ?_)
    have h : hw D b0 s.heap (hu f_1588 x (.inr (0, [.ref q_1581, .int 0, .int 0, .int 0]))) H locs := h
    rw [hu_id k_1590] at h
    refine lv_goto (tgt := 38) hx hb dJ5_init_d00df_22 (by decide) ?_
    exact q_vret C h hr (⟨q_1581, k_1590, o_1591⟩) (Nat.le_of_ble_eq_true rfl) (Nat.le_of_ble_eq_true rfl) dJ5_init_d00df_38
set_option maxRecDepth 100000 in
set_option maxHeartbeats 4000000 in
theorem c_J4_init_da8c8 (l : Launch) (D : va_G) (G : Nat → Nat) (b0 : Nat) (f : hM) (x : Nat) (kx : f x = some (.inr (0, [.null, .int 0, .int 0, .int 0]))) : mV l yJ4_init_da8c8 cJ4_init_da8c8 1 { frames := 2, cells := 1, slots := 16, locals := 33 } D G b0 f [.ref x] (fun f1 => ∃ (vl : Nat), f1 x = some (.inr (0, [.ref vl, .int 0, .int 0, .int 0])) ∧ Ol x f f1) := by
  refine met_of (own := RJ4) (by decide) rfl (Nat.le_of_ble_eq_true rfl) ?_
  intro p e s m below meth c ls C hr hini hl h
  have hl : lv_has ls 1 [(0, .ref x)] := hl
  obtain ⟨hx, hb, hml, hown, hts, hE0, hlk⟩ := id C
  have o0 := ol_rf x f
  refine lv_aload_n hx hb dJ4_init_da8c8_0 rfl (lv_at hl 0 rfl) ?_
  refine lv_bipush (v := 16) hx hb dJ4_init_da8c8_1 (by decide) ?_
  refine k_v (r_I C h hl (As := [.int 16]) (rest := []) (c_J5_init_d00df l D G b0 f x kx) mk_J5_init_d00df rfl w_352 w_353 w_354 ⟨Nat.le_of_ble_eq_true rfl, Nat.le_of_ble_eq_true rfl⟩ rfl (Nat.le_of_ble_eq_true rfl) ⟨Nat.le_of_ble_eq_true rfl, Nat.le_of_ble_eq_true rfl⟩ rfl dJ4_init_da8c8_3) h (fun f_1593 H locs p_1594 h => ?_)
  obtain ⟨a_1595, k_1596, u_1597⟩ := p_1594
  have o_1598 := ol_trans u_1597 o0
  exact q_vret C h hr (⟨a_1595, k_1596, o_1598⟩) (Nat.le_of_ble_eq_true rfl) (Nat.le_of_ble_eq_true rfl) dJ4_init_da8c8_6
set_option maxRecDepth 100000 in
set_option maxHeartbeats 4000000 in
theorem c_X0_init (l : Launch) (D : va_G) (G : Nat → Nat) (b0 : Nat) (f : hM) (x : Nat) (kx : f x = some (.inr (1, [.int 0, .null, .null, .null, .int 0, .int 0]))) : mV l yX0_init cX0_init 2 { frames := 2, cells := 29, slots := 152, locals := 32 } D G b0 f [.ref x] (fun f1 => ∃ (nw : Nat) (kp : Nat) (bf : Nat) (st : Nat) (ks : Nat), f1 x = some (.inr (1, [.int 0, .ref nw, .ref kp, .ref bf, .int 0, .int 0])) ∧ f1 nw = some (.inr (6, [.ref st, .int 0])) ∧ f1 kp = some (.inr (6, [.ref ks, .int 0])) ∧ f1 st = some (.inl (G 4, 8, .inr (.inr (.inr (.inr (fun _ => none)))))) ∧ f1 ks = some (.inl (G 4, 8, .inr (.inr (.inr (.inr (fun _ => none)))))) ∧ Ol x f f1) := by
  refine met_of (own := RX0) (by decide) rfl (Nat.le_of_ble_eq_true rfl) ?_
  intro p e s m below meth c ls C hr hini hl h
  have hl : lv_has ls 2 [(0, .ref x)] := hl
  obtain ⟨hx, hb, hml, hown, hts, hE0, hlk⟩ := id C
  have o0 := ol_rf x f
  refine lv_aload_n hx hb dX0_init_0 rfl (lv_at hl 0 rfl) ?_
  refine W.objInit hx hb hown (hts _ w_167) (hts _ w_130) (hts _ w_131) rfl (hl.1.trans hml.symm) rfl dX0_init_1 (Nat.le_of_ble_eq_true rfl) (Nat.le_of_ble_eq_true rfl) ?_
  show W _ _ _ _ _ _ _ _ _ _ _ _ _ _ _ (F0 m 4 ls [])
  refine lv_aload_n hx hb dX0_init_4 rfl (lv_at hl 0 rfl) ?_
  refine q_new C h nw_X0_9 (Nat.le_of_ble_eq_true rfl) (Nat.le_of_ble_eq_true rfl) dX0_init_5 (fun q_1599 H nq_1599 h => ?_)
  generalize ef_1600 : hu f q_1599 (.inr (6, [.null, .int 0])) = f_1600 at h
  have d_1602 : x ≠ q_1599 := (hne0 nq_1599 kx)
  have k_1601 : f_1600 x = some (.inr (1, [.int 0, .null, .null, .null, .int 0, .int 0])) := by rw [← ef_1600]; exact hu_at kx d_1602
  have k_1603 : f_1600 q_1599 = some (.inr (6, [.null, .int 0])) := by rw [← ef_1600]; exact hu_self _ _ _
  have z_1605 : f q_1599 = none := ol_none o0 nq_1599 kx
  have o_1604 := ol_upn ef_1600 z_1605 o0
  refine lv_dup hx hb dX0_init_8 rfl ?_
  refine k_v (r_I C h hl (As := []) (rest := [.ref q_1599, .ref x]) (c_X5_init l D G b0 f_1600 q_1599 k_1603) mk_X5_init rfl w_170 w_171 w_172 ⟨Nat.le_of_ble_eq_true rfl, Nat.le_of_ble_eq_true rfl⟩ rfl (Nat.le_of_ble_eq_true rfl) ⟨Nat.le_of_ble_eq_true rfl, Nat.le_of_ble_eq_true rfl⟩ rfl dX0_init_9) h (fun f_1607 H locs p_1608 h => ?_)
  obtain ⟨a_1609, k_1610, k_1611, u_1612⟩ := p_1608
  have k_1613 : f_1607 x = some (.inr (1, [.int 0, .null, .null, .null, .int 0, .int 0])) := ol_at u_1612 k_1601 d_1602
  have o_1614 := ol_rel u_1612 z_1605 o_1604
  refine q_put C h k_1613 flw_X0_12 (Or.inl hini) (v := .ref q_1599) rfl rfl (Nat.le_of_ble_eq_true rfl) dX0_init_12 (fun H locs h => ?_)
  have h : hw D b0 s.heap (hu f_1607 x (.inr (1, [.int 0, .ref q_1599, .null, .null, .int 0, .int 0]))) H locs := h
  generalize ef_1615 : hu f_1607 x (.inr (1, [.int 0, .ref q_1599, .null, .null, .int 0, .int 0])) = f_1615 at h
  have k_1616 : f_1615 q_1599 = some (.inr (6, [.ref a_1609, .int 0])) := by rw [← ef_1615]; exact hu_at k_1610 (Ne.symm d_1602)
  have k_1617 : f_1615 a_1609 = some (.inl (G 4, 8, .inr (.inr (.inr (.inr (fun _ => none)))))) := by rw [← ef_1615]; exact hu_at k_1611 (hne (4, 1) (3, 8) k_1613 k_1611 rfl rfl (by decide))
  have k_1618 : f_1615 x = some (.inr (1, [.int 0, .ref q_1599, .null, .null, .int 0, .int 0])) := by rw [← ef_1615]; exact hu_self _ _ _
  have o_1619 := ol_up ef_1615 o_1614
  refine lv_aload_n hx hb dX0_init_15 rfl (lv_at hl 0 rfl) ?_
  refine q_new C h nw_X0_9 (Nat.le_of_ble_eq_true rfl) (Nat.le_of_ble_eq_true rfl) dX0_init_16 (fun q_1620 H nq_1620 h => ?_)
  generalize ef_1621 : hu f_1615 q_1620 (.inr (6, [.null, .int 0])) = f_1621 at h
  have d_1623 : q_1599 ≠ q_1620 := (hne0 nq_1620 k_1616)
  have k_1622 : f_1621 q_1599 = some (.inr (6, [.ref a_1609, .int 0])) := by rw [← ef_1621]; exact hu_at k_1616 d_1623
  have d_1625 : a_1609 ≠ q_1620 := (hne0 nq_1620 k_1617)
  have k_1624 : f_1621 a_1609 = some (.inl (G 4, 8, .inr (.inr (.inr (.inr (fun _ => none)))))) := by rw [← ef_1621]; exact hu_at k_1617 d_1625
  have d_1627 : x ≠ q_1620 := (hne0 nq_1620 k_1618)
  have k_1626 : f_1621 x = some (.inr (1, [.int 0, .ref q_1599, .null, .null, .int 0, .int 0])) := by rw [← ef_1621]; exact hu_at k_1618 d_1627
  have k_1628 : f_1621 q_1620 = some (.inr (6, [.null, .int 0])) := by rw [← ef_1621]; exact hu_self _ _ _
  have z_1630 : f q_1620 = none := ol_none o_1619 nq_1620 k_1618
  have o_1629 := ol_upn ef_1621 z_1630 o_1619
  refine lv_dup hx hb dX0_init_19 rfl ?_
  refine k_v (r_I C h hl (As := []) (rest := [.ref q_1620, .ref x]) (c_X5_init l D G b0 f_1621 q_1620 k_1628) mk_X5_init rfl w_170 w_171 w_172 ⟨Nat.le_of_ble_eq_true rfl, Nat.le_of_ble_eq_true rfl⟩ rfl (Nat.le_of_ble_eq_true rfl) ⟨Nat.le_of_ble_eq_true rfl, Nat.le_of_ble_eq_true rfl⟩ rfl dX0_init_20) h (fun f_1632 H locs p_1633 h => ?_)
  obtain ⟨a_1634, k_1635, k_1636, u_1637⟩ := p_1633
  have k_1638 : f_1632 q_1599 = some (.inr (6, [.ref a_1609, .int 0])) := ol_at u_1637 k_1622 d_1623
  have k_1639 : f_1632 a_1609 = some (.inl (G 4, 8, .inr (.inr (.inr (.inr (fun _ => none)))))) := ol_at u_1637 k_1624 d_1625
  have k_1640 : f_1632 x = some (.inr (1, [.int 0, .ref q_1599, .null, .null, .int 0, .int 0])) := ol_at u_1637 k_1626 d_1627
  have o_1641 := ol_rel u_1637 z_1630 o_1629
  refine q_put C h k_1640 flw_X0_18 (Or.inl hini) (v := .ref q_1620) rfl rfl (Nat.le_of_ble_eq_true rfl) dX0_init_23 (fun H locs h => ?_)
  have h : hw D b0 s.heap (hu f_1632 x (.inr (1, [.int 0, .ref q_1599, .ref q_1620, .null, .int 0, .int 0]))) H locs := h
  generalize ef_1642 : hu f_1632 x (.inr (1, [.int 0, .ref q_1599, .ref q_1620, .null, .int 0, .int 0])) = f_1642 at h
  have k_1643 : f_1642 q_1599 = some (.inr (6, [.ref a_1609, .int 0])) := by rw [← ef_1642]; exact hu_at k_1638 (Ne.symm d_1602)
  have k_1644 : f_1642 a_1609 = some (.inl (G 4, 8, .inr (.inr (.inr (.inr (fun _ => none)))))) := by rw [← ef_1642]; exact hu_at k_1639 (hne (4, 1) (3, 8) k_1640 k_1639 rfl rfl (by decide))
  have k_1645 : f_1642 q_1620 = some (.inr (6, [.ref a_1634, .int 0])) := by rw [← ef_1642]; exact hu_at k_1635 (Ne.symm d_1627)
  have k_1646 : f_1642 a_1634 = some (.inl (G 4, 8, .inr (.inr (.inr (.inr (fun _ => none)))))) := by rw [← ef_1642]; exact hu_at k_1636 (hne (4, 1) (3, 8) k_1640 k_1636 rfl rfl (by decide))
  have k_1647 : f_1642 x = some (.inr (1, [.int 0, .ref q_1599, .ref q_1620, .null, .int 0, .int 0])) := by rw [← ef_1642]; exact hu_self _ _ _
  have o_1648 := ol_up ef_1642 o_1641
  refine lv_aload_n hx hb dX0_init_26 rfl (lv_at hl 0 rfl) ?_
  refine lv_bipush (v := 12) hx hb dX0_init_27 (by decide) ?_
  refine q_newq C h 3 rfl w_168 C.2.2.2.2.2.1.2.2.2.2.1 (by decide) (N' := 12) (by decide) (Nat.le_of_ble_eq_true rfl) (Nat.le_of_ble_eq_true rfl) (Nat.le_of_ble_eq_true rfl) dX0_init_29 (fun q_1649 H nq_1649 h => ?_)
  generalize ef_1650 : hu f_1642 q_1649 (.inl (G 3, 12, .inr (.inr (.inr (.inr (fun _ => none)))))) = f_1650 at h
  have d_1652 : q_1599 ≠ q_1649 := (hne0 nq_1649 k_1643)
  have k_1651 : f_1650 q_1599 = some (.inr (6, [.ref a_1609, .int 0])) := by rw [← ef_1650]; exact hu_at k_1643 d_1652
  have d_1654 : a_1609 ≠ q_1649 := (hne0 nq_1649 k_1644)
  have k_1653 : f_1650 a_1609 = some (.inl (G 4, 8, .inr (.inr (.inr (.inr (fun _ => none)))))) := by rw [← ef_1650]; exact hu_at k_1644 d_1654
  have d_1656 : q_1620 ≠ q_1649 := (hne0 nq_1649 k_1645)
  have k_1655 : f_1650 q_1620 = some (.inr (6, [.ref a_1634, .int 0])) := by rw [← ef_1650]; exact hu_at k_1645 d_1656
  have d_1658 : a_1634 ≠ q_1649 := (hne0 nq_1649 k_1646)
  have k_1657 : f_1650 a_1634 = some (.inl (G 4, 8, .inr (.inr (.inr (.inr (fun _ => none)))))) := by rw [← ef_1650]; exact hu_at k_1646 d_1658
  have d_1660 : x ≠ q_1649 := (hne0 nq_1649 k_1647)
  have k_1659 : f_1650 x = some (.inr (1, [.int 0, .ref q_1599, .ref q_1620, .null, .int 0, .int 0])) := by rw [← ef_1650]; exact hu_at k_1647 d_1660
  have k_1661 : f_1650 q_1649 = some (.inl (G 3, 12, .inr (.inr (.inr (.inr (fun _ => none)))))) := by rw [← ef_1650]; exact hu_self _ _ _
  have z_1663 : f q_1649 = none := ol_none o_1648 nq_1649 k_1647
  have o_1662 := ol_upn ef_1650 z_1663 o_1648
  refine q_put C h k_1659 flw_X0_21 (Or.inl hini) (v := .ref q_1649) rfl rfl (Nat.le_of_ble_eq_true rfl) dX0_init_32 (fun H locs h => ?_)
  have h : hw D b0 s.heap (hu f_1650 x (.inr (1, [.int 0, .ref q_1599, .ref q_1620, .ref q_1649, .int 0, .int 0]))) H locs := h
  generalize ef_1664 : hu f_1650 x (.inr (1, [.int 0, .ref q_1599, .ref q_1620, .ref q_1649, .int 0, .int 0])) = f_1664 at h
  have k_1665 : f_1664 q_1599 = some (.inr (6, [.ref a_1609, .int 0])) := by rw [← ef_1664]; exact hu_at k_1651 (Ne.symm d_1602)
  have k_1666 : f_1664 a_1609 = some (.inl (G 4, 8, .inr (.inr (.inr (.inr (fun _ => none)))))) := by rw [← ef_1664]; exact hu_at k_1653 (hne (4, 1) (3, 8) k_1659 k_1653 rfl rfl (by decide))
  have k_1667 : f_1664 q_1620 = some (.inr (6, [.ref a_1634, .int 0])) := by rw [← ef_1664]; exact hu_at k_1655 (Ne.symm d_1627)
  have k_1668 : f_1664 a_1634 = some (.inl (G 4, 8, .inr (.inr (.inr (.inr (fun _ => none)))))) := by rw [← ef_1664]; exact hu_at k_1657 (hne (4, 1) (3, 8) k_1659 k_1657 rfl rfl (by decide))
  have k_1669 : f_1664 q_1649 = some (.inl (G 3, 12, .inr (.inr (.inr (.inr (fun _ => none)))))) := by rw [← ef_1664]; exact hu_at k_1661 (Ne.symm d_1660)
  have k_1670 : f_1664 x = some (.inr (1, [.int 0, .ref q_1599, .ref q_1620, .ref q_1649, .int 0, .int 0])) := by rw [← ef_1664]; exact hu_self _ _ _
  have o_1671 := ol_up ef_1664 o_1662
  refine lv_iconst (v := 0) hx hb dX0_init_35 (by decide) ?_
  refine lv_istore_n (lv' := [(1, .int 0), (0, .ref x)]) hx hb dX0_init_36 rfl hl (by decide) rfl (fun ls hl => ?_)
  refine lv_iload_n hx hb dX0_init_37 rfl (lv_at hl 0 rfl) ?_
  refine lv_bipush (v := 12) hx hb dX0_init_38 (by decide) ?_
  refine lv_icmp_ge (tgt := 62) hx hb dX0_init_40 (by decide) (fun c_1672 => ?_) (fun c_1672 => ?_)
  · exact absurd c_1672 (by decide)
  · refine lv_aload_n hx hb dX0_init_43 rfl (lv_at hl 1 rfl) ?_
    refine q_get C h k_1670 fl_X0_21 (v := .ref q_1649) rfl dX0_init_44 ?_
    refine lv_iload_n hx hb dX0_init_47 rfl (lv_at hl 0 rfl) ?_
    refine q_new C h nw_X0_9 (Nat.le_of_ble_eq_true rfl) (Nat.le_of_ble_eq_true rfl) dX0_init_48 (fun q_1673 H nq_1673 h => ?_)
    generalize ef_1674 : hu f_1664 q_1673 (.inr (6, [.null, .int 0])) = f_1674 at h
    have d_1676 : q_1599 ≠ q_1673 := (hne0 nq_1673 k_1665)
    have k_1675 : f_1674 q_1599 = some (.inr (6, [.ref a_1609, .int 0])) := by rw [← ef_1674]; exact hu_at k_1665 d_1676
    have d_1678 : a_1609 ≠ q_1673 := (hne0 nq_1673 k_1666)
    have k_1677 : f_1674 a_1609 = some (.inl (G 4, 8, .inr (.inr (.inr (.inr (fun _ => none)))))) := by rw [← ef_1674]; exact hu_at k_1666 d_1678
    have d_1680 : q_1620 ≠ q_1673 := (hne0 nq_1673 k_1667)
    have k_1679 : f_1674 q_1620 = some (.inr (6, [.ref a_1634, .int 0])) := by rw [← ef_1674]; exact hu_at k_1667 d_1680
    have d_1682 : a_1634 ≠ q_1673 := (hne0 nq_1673 k_1668)
    have k_1681 : f_1674 a_1634 = some (.inl (G 4, 8, .inr (.inr (.inr (.inr (fun _ => none)))))) := by rw [← ef_1674]; exact hu_at k_1668 d_1682
    have d_1684 : q_1649 ≠ q_1673 := (hne0 nq_1673 k_1669)
    have k_1683 : f_1674 q_1649 = some (.inl (G 3, 12, .inr (.inr (.inr (.inr (fun _ => none)))))) := by rw [← ef_1674]; exact hu_at k_1669 d_1684
    have d_1686 : x ≠ q_1673 := (hne0 nq_1673 k_1670)
    have k_1685 : f_1674 x = some (.inr (1, [.int 0, .ref q_1599, .ref q_1620, .ref q_1649, .int 0, .int 0])) := by rw [← ef_1674]; exact hu_at k_1670 d_1686
    have k_1687 : f_1674 q_1673 = some (.inr (6, [.null, .int 0])) := by rw [← ef_1674]; exact hu_self _ _ _
    have z_1689 : f q_1673 = none := ol_none o_1671 nq_1673 k_1670
    have o_1688 := ol_upn ef_1674 z_1689 o_1671
    refine lv_dup hx hb dX0_init_51 rfl ?_
    refine k_v (r_I C h hl (As := []) (rest := [.ref q_1673, .int 0, .ref q_1649]) (c_X5_init l D G b0 f_1674 q_1673 k_1687) mk_X5_init rfl w_170 w_171 w_172 ⟨Nat.le_of_ble_eq_true rfl, Nat.le_of_ble_eq_true rfl⟩ rfl (Nat.le_of_ble_eq_true rfl) ⟨Nat.le_of_ble_eq_true rfl, Nat.le_of_ble_eq_true rfl⟩ rfl dX0_init_52) h (fun f_1691 H locs p_1692 h => ?_)
    obtain ⟨a_1693, k_1694, k_1695, u_1696⟩ := p_1692
    have k_1697 : f_1691 q_1599 = some (.inr (6, [.ref a_1609, .int 0])) := ol_at u_1696 k_1675 d_1676
    have k_1698 : f_1691 a_1609 = some (.inl (G 4, 8, .inr (.inr (.inr (.inr (fun _ => none)))))) := ol_at u_1696 k_1677 d_1678
    have k_1699 : f_1691 q_1620 = some (.inr (6, [.ref a_1634, .int 0])) := ol_at u_1696 k_1679 d_1680
    have k_1700 : f_1691 a_1634 = some (.inl (G 4, 8, .inr (.inr (.inr (.inr (fun _ => none)))))) := ol_at u_1696 k_1681 d_1682
    have k_1701 : f_1691 q_1649 = some (.inl (G 3, 12, .inr (.inr (.inr (.inr (fun _ => none)))))) := ol_at u_1696 k_1683 d_1684
    have k_1702 : f_1691 x = some (.inr (1, [.int 0, .ref q_1599, .ref q_1620, .ref q_1649, .int 0, .int 0])) := ol_at u_1696 k_1685 d_1686
    have o_1703 := ol_rel u_1696 z_1689 o_1688
    refine q_aast C h 3 6 (rr := (RX5, TX5, 2)) rfl rfl k_1701 k_1694 (by unfold vp_in; decide) dX0_init_55 (fun H locs h => ?_)
    generalize ef_1704 : hu f_1691 q_1649 (.inl (G 3, 12, .inr (.inr (.inr (.inr (va_up (fun _ => none) (Int32.toNatClampNeg 0) (some q_1673))))))) = f_1704 at h
    have k_1705 : f_1704 q_1599 = some (.inr (6, [.ref a_1609, .int 0])) := by rw [← ef_1704]; exact hu_at k_1697 d_1652
    have k_1706 : f_1704 a_1609 = some (.inl (G 4, 8, .inr (.inr (.inr (.inr (fun _ => none)))))) := by rw [← ef_1704]; exact hu_at k_1698 d_1654
    have k_1707 : f_1704 q_1620 = some (.inr (6, [.ref a_1634, .int 0])) := by rw [← ef_1704]; exact hu_at k_1699 d_1656
    have k_1708 : f_1704 a_1634 = some (.inl (G 4, 8, .inr (.inr (.inr (.inr (fun _ => none)))))) := by rw [← ef_1704]; exact hu_at k_1700 d_1658
    have k_1709 : f_1704 x = some (.inr (1, [.int 0, .ref q_1599, .ref q_1620, .ref q_1649, .int 0, .int 0])) := by rw [← ef_1704]; exact hu_at k_1702 d_1660
    have k_1710 : f_1704 q_1673 = some (.inr (6, [.ref a_1693, .int 0])) := by rw [← ef_1704]; exact hu_at k_1694 (Ne.symm d_1684)
    have k_1711 : f_1704 a_1693 = some (.inl (G 4, 8, .inr (.inr (.inr (.inr (fun _ => none)))))) := by rw [← ef_1704]; exact hu_at k_1695 (hne (3, 12) (3, 8) k_1701 k_1695 rfl rfl (by decide))
    have k_1712 : f_1704 q_1649 = some (.inl (G 3, 12, .inr (.inr (.inr (.inr (va_up (fun _ => none) (Int32.toNatClampNeg 0) (some q_1673))))))) := by rw [← ef_1704]; exact hu_self _ _ _
    have o_1713 := ol_upn ef_1704 z_1663 o_1703
    refine lv_iinc (v := 1) (lv' := [(1, .int 1), (0, .ref x)]) hx hb dX0_init_56 hl (k := 0) rfl (by decide) (by decide) rfl (fun ls hl => ?_)
    refine lv_goto (tgt := 37) hx hb dX0_init_59 (by decide) ?_
    refine lv_iload_n hx hb dX0_init_37 rfl (lv_at hl 0 rfl) ?_
    refine lv_bipush (v := 12) hx hb dX0_init_38 (by decide) ?_
    refine lv_icmp_ge (tgt := 62) hx hb dX0_init_40 (by decide) (fun c_1714 => ?_) (fun c_1714 => ?_)
    · exact absurd c_1714 (by decide)
    · refine lv_aload_n hx hb dX0_init_43 rfl (lv_at hl 1 rfl) ?_
      refine q_get C h k_1709 fl_X0_21 (v := .ref q_1649) rfl dX0_init_44 ?_
      refine lv_iload_n hx hb dX0_init_47 rfl (lv_at hl 0 rfl) ?_
      refine q_new C h nw_X0_9 (Nat.le_of_ble_eq_true rfl) (Nat.le_of_ble_eq_true rfl) dX0_init_48 (fun q_1715 H nq_1715 h => ?_)
      generalize ef_1716 : hu f_1704 q_1715 (.inr (6, [.null, .int 0])) = f_1716 at h
      have d_1718 : q_1599 ≠ q_1715 := (hne0 nq_1715 k_1705)
      have k_1717 : f_1716 q_1599 = some (.inr (6, [.ref a_1609, .int 0])) := by rw [← ef_1716]; exact hu_at k_1705 d_1718
      have d_1720 : a_1609 ≠ q_1715 := (hne0 nq_1715 k_1706)
      have k_1719 : f_1716 a_1609 = some (.inl (G 4, 8, .inr (.inr (.inr (.inr (fun _ => none)))))) := by rw [← ef_1716]; exact hu_at k_1706 d_1720
      have d_1722 : q_1620 ≠ q_1715 := (hne0 nq_1715 k_1707)
      have k_1721 : f_1716 q_1620 = some (.inr (6, [.ref a_1634, .int 0])) := by rw [← ef_1716]; exact hu_at k_1707 d_1722
      have d_1724 : a_1634 ≠ q_1715 := (hne0 nq_1715 k_1708)
      have k_1723 : f_1716 a_1634 = some (.inl (G 4, 8, .inr (.inr (.inr (.inr (fun _ => none)))))) := by rw [← ef_1716]; exact hu_at k_1708 d_1724
      have d_1726 : x ≠ q_1715 := (hne0 nq_1715 k_1709)
      have k_1725 : f_1716 x = some (.inr (1, [.int 0, .ref q_1599, .ref q_1620, .ref q_1649, .int 0, .int 0])) := by rw [← ef_1716]; exact hu_at k_1709 d_1726
      have d_1728 : q_1649 ≠ q_1715 := (hne0 nq_1715 k_1712)
      have k_1727 : f_1716 q_1649 = some (.inl (G 3, 12, .inr (.inr (.inr (.inr (va_up (fun _ => none) (Int32.toNatClampNeg 0) (some q_1673))))))) := by rw [← ef_1716]; exact hu_at k_1712 d_1728
      have k_1729 : f_1716 q_1715 = some (.inr (6, [.null, .int 0])) := by rw [← ef_1716]; exact hu_self _ _ _
      have z_1731 : f q_1715 = none := ol_none o_1713 nq_1715 k_1709
      have o_1730 := ol_upn ef_1716 z_1731 o_1713
      refine lv_dup hx hb dX0_init_51 rfl ?_
      refine k_v (r_I C h hl (As := []) (rest := [.ref q_1715, .int 1, .ref q_1649]) (c_X5_init l D G b0 f_1716 q_1715 k_1729) mk_X5_init rfl w_170 w_171 w_172 ⟨Nat.le_of_ble_eq_true rfl, Nat.le_of_ble_eq_true rfl⟩ rfl (Nat.le_of_ble_eq_true rfl) ⟨Nat.le_of_ble_eq_true rfl, Nat.le_of_ble_eq_true rfl⟩ rfl dX0_init_52) h (fun f_1733 H locs p_1734 h => ?_)
      obtain ⟨a_1735, k_1736, k_1737, u_1738⟩ := p_1734
      have k_1739 : f_1733 q_1599 = some (.inr (6, [.ref a_1609, .int 0])) := ol_at u_1738 k_1717 d_1718
      have k_1740 : f_1733 a_1609 = some (.inl (G 4, 8, .inr (.inr (.inr (.inr (fun _ => none)))))) := ol_at u_1738 k_1719 d_1720
      have k_1741 : f_1733 q_1620 = some (.inr (6, [.ref a_1634, .int 0])) := ol_at u_1738 k_1721 d_1722
      have k_1742 : f_1733 a_1634 = some (.inl (G 4, 8, .inr (.inr (.inr (.inr (fun _ => none)))))) := ol_at u_1738 k_1723 d_1724
      have k_1743 : f_1733 x = some (.inr (1, [.int 0, .ref q_1599, .ref q_1620, .ref q_1649, .int 0, .int 0])) := ol_at u_1738 k_1725 d_1726
      have k_1744 : f_1733 q_1649 = some (.inl (G 3, 12, .inr (.inr (.inr (.inr (va_up (fun _ => none) (Int32.toNatClampNeg 0) (some q_1673))))))) := ol_at u_1738 k_1727 d_1728
      have o_1745 := ol_rel u_1738 z_1731 o_1730
      refine q_aast C h 3 6 (rr := (RX5, TX5, 2)) rfl rfl k_1744 k_1736 (by unfold vp_in; decide) dX0_init_55 (fun H locs h => ?_)
      generalize ef_1746 : hu f_1733 q_1649 (.inl (G 3, 12, .inr (.inr (.inr (.inr (va_up (va_up (fun _ => none) (Int32.toNatClampNeg 0) (some q_1673)) (Int32.toNatClampNeg 1) (some q_1715))))))) = f_1746 at h
      have k_1747 : f_1746 q_1599 = some (.inr (6, [.ref a_1609, .int 0])) := by rw [← ef_1746]; exact hu_at k_1739 d_1652
      have k_1748 : f_1746 a_1609 = some (.inl (G 4, 8, .inr (.inr (.inr (.inr (fun _ => none)))))) := by rw [← ef_1746]; exact hu_at k_1740 d_1654
      have k_1749 : f_1746 q_1620 = some (.inr (6, [.ref a_1634, .int 0])) := by rw [← ef_1746]; exact hu_at k_1741 d_1656
      have k_1750 : f_1746 a_1634 = some (.inl (G 4, 8, .inr (.inr (.inr (.inr (fun _ => none)))))) := by rw [← ef_1746]; exact hu_at k_1742 d_1658
      have k_1751 : f_1746 x = some (.inr (1, [.int 0, .ref q_1599, .ref q_1620, .ref q_1649, .int 0, .int 0])) := by rw [← ef_1746]; exact hu_at k_1743 d_1660
      have k_1752 : f_1746 q_1715 = some (.inr (6, [.ref a_1735, .int 0])) := by rw [← ef_1746]; exact hu_at k_1736 (Ne.symm d_1728)
      have k_1753 : f_1746 a_1735 = some (.inl (G 4, 8, .inr (.inr (.inr (.inr (fun _ => none)))))) := by rw [← ef_1746]; exact hu_at k_1737 (hne (3, 12) (3, 8) k_1744 k_1737 rfl rfl (by decide))
      have k_1754 : f_1746 q_1649 = some (.inl (G 3, 12, .inr (.inr (.inr (.inr (va_up (va_up (fun _ => none) (Int32.toNatClampNeg 0) (some q_1673)) (Int32.toNatClampNeg 1) (some q_1715))))))) := by rw [← ef_1746]; exact hu_self _ _ _
      have o_1755 := ol_upn ef_1746 z_1663 o_1745
      refine lv_iinc (v := 2) (lv' := [(1, .int 2), (0, .ref x)]) hx hb dX0_init_56 hl (k := 0) rfl (by decide) (by decide) rfl (fun ls hl => ?_)
      refine lv_goto (tgt := 37) hx hb dX0_init_59 (by decide) ?_
      refine lv_iload_n hx hb dX0_init_37 rfl (lv_at hl 0 rfl) ?_
      refine lv_bipush (v := 12) hx hb dX0_init_38 (by decide) ?_
      refine lv_icmp_ge (tgt := 62) hx hb dX0_init_40 (by decide) (fun c_1756 => ?_) (fun c_1756 => ?_)
      · exact absurd c_1756 (by decide)
      · refine lv_aload_n hx hb dX0_init_43 rfl (lv_at hl 1 rfl) ?_
        refine q_get C h k_1751 fl_X0_21 (v := .ref q_1649) rfl dX0_init_44 ?_
        refine lv_iload_n hx hb dX0_init_47 rfl (lv_at hl 0 rfl) ?_
        refine q_new C h nw_X0_9 (Nat.le_of_ble_eq_true rfl) (Nat.le_of_ble_eq_true rfl) dX0_init_48 (fun q_1757 H nq_1757 h => ?_)
        generalize ef_1758 : hu f_1746 q_1757 (.inr (6, [.null, .int 0])) = f_1758 at h
        have d_1760 : q_1599 ≠ q_1757 := (hne0 nq_1757 k_1747)
        have k_1759 : f_1758 q_1599 = some (.inr (6, [.ref a_1609, .int 0])) := by rw [← ef_1758]; exact hu_at k_1747 d_1760
        have d_1762 : a_1609 ≠ q_1757 := (hne0 nq_1757 k_1748)
        have k_1761 : f_1758 a_1609 = some (.inl (G 4, 8, .inr (.inr (.inr (.inr (fun _ => none)))))) := by rw [← ef_1758]; exact hu_at k_1748 d_1762
        have d_1764 : q_1620 ≠ q_1757 := (hne0 nq_1757 k_1749)
        have k_1763 : f_1758 q_1620 = some (.inr (6, [.ref a_1634, .int 0])) := by rw [← ef_1758]; exact hu_at k_1749 d_1764
        have d_1766 : a_1634 ≠ q_1757 := (hne0 nq_1757 k_1750)
        have k_1765 : f_1758 a_1634 = some (.inl (G 4, 8, .inr (.inr (.inr (.inr (fun _ => none)))))) := by rw [← ef_1758]; exact hu_at k_1750 d_1766
        have d_1768 : x ≠ q_1757 := (hne0 nq_1757 k_1751)
        have k_1767 : f_1758 x = some (.inr (1, [.int 0, .ref q_1599, .ref q_1620, .ref q_1649, .int 0, .int 0])) := by rw [← ef_1758]; exact hu_at k_1751 d_1768
        have d_1770 : q_1649 ≠ q_1757 := (hne0 nq_1757 k_1754)
        have k_1769 : f_1758 q_1649 = some (.inl (G 3, 12, .inr (.inr (.inr (.inr (va_up (va_up (fun _ => none) (Int32.toNatClampNeg 0) (some q_1673)) (Int32.toNatClampNeg 1) (some q_1715))))))) := by rw [← ef_1758]; exact hu_at k_1754 d_1770
        have k_1771 : f_1758 q_1757 = some (.inr (6, [.null, .int 0])) := by rw [← ef_1758]; exact hu_self _ _ _
        have z_1773 : f q_1757 = none := ol_none o_1755 nq_1757 k_1751
        have o_1772 := ol_upn ef_1758 z_1773 o_1755
        refine lv_dup hx hb dX0_init_51 rfl ?_
        refine k_v (r_I C h hl (As := []) (rest := [.ref q_1757, .int 2, .ref q_1649]) (c_X5_init l D G b0 f_1758 q_1757 k_1771) mk_X5_init rfl w_170 w_171 w_172 ⟨Nat.le_of_ble_eq_true rfl, Nat.le_of_ble_eq_true rfl⟩ rfl (Nat.le_of_ble_eq_true rfl) ⟨Nat.le_of_ble_eq_true rfl, Nat.le_of_ble_eq_true rfl⟩ rfl dX0_init_52) h (fun f_1775 H locs p_1776 h => ?_)
        obtain ⟨a_1777, k_1778, k_1779, u_1780⟩ := p_1776
        have k_1781 : f_1775 q_1599 = some (.inr (6, [.ref a_1609, .int 0])) := ol_at u_1780 k_1759 d_1760
        have k_1782 : f_1775 a_1609 = some (.inl (G 4, 8, .inr (.inr (.inr (.inr (fun _ => none)))))) := ol_at u_1780 k_1761 d_1762
        have k_1783 : f_1775 q_1620 = some (.inr (6, [.ref a_1634, .int 0])) := ol_at u_1780 k_1763 d_1764
        have k_1784 : f_1775 a_1634 = some (.inl (G 4, 8, .inr (.inr (.inr (.inr (fun _ => none)))))) := ol_at u_1780 k_1765 d_1766
        have k_1785 : f_1775 x = some (.inr (1, [.int 0, .ref q_1599, .ref q_1620, .ref q_1649, .int 0, .int 0])) := ol_at u_1780 k_1767 d_1768
        have k_1786 : f_1775 q_1649 = some (.inl (G 3, 12, .inr (.inr (.inr (.inr (va_up (va_up (fun _ => none) (Int32.toNatClampNeg 0) (some q_1673)) (Int32.toNatClampNeg 1) (some q_1715))))))) := ol_at u_1780 k_1769 d_1770
        have o_1787 := ol_rel u_1780 z_1773 o_1772
        refine q_aast C h 3 6 (rr := (RX5, TX5, 2)) rfl rfl k_1786 k_1778 (by unfold vp_in; decide) dX0_init_55 (fun H locs h => ?_)
        generalize ef_1788 : hu f_1775 q_1649 (.inl (G 3, 12, .inr (.inr (.inr (.inr (va_up (va_up (va_up (fun _ => none) (Int32.toNatClampNeg 0) (some q_1673)) (Int32.toNatClampNeg 1) (some q_1715)) (Int32.toNatClampNeg 2) (some q_1757))))))) = f_1788 at h
        have k_1789 : f_1788 q_1599 = some (.inr (6, [.ref a_1609, .int 0])) := by rw [← ef_1788]; exact hu_at k_1781 d_1652
        have k_1790 : f_1788 a_1609 = some (.inl (G 4, 8, .inr (.inr (.inr (.inr (fun _ => none)))))) := by rw [← ef_1788]; exact hu_at k_1782 d_1654
        have k_1791 : f_1788 q_1620 = some (.inr (6, [.ref a_1634, .int 0])) := by rw [← ef_1788]; exact hu_at k_1783 d_1656
        have k_1792 : f_1788 a_1634 = some (.inl (G 4, 8, .inr (.inr (.inr (.inr (fun _ => none)))))) := by rw [← ef_1788]; exact hu_at k_1784 d_1658
        have k_1793 : f_1788 x = some (.inr (1, [.int 0, .ref q_1599, .ref q_1620, .ref q_1649, .int 0, .int 0])) := by rw [← ef_1788]; exact hu_at k_1785 d_1660
        have k_1794 : f_1788 q_1757 = some (.inr (6, [.ref a_1777, .int 0])) := by rw [← ef_1788]; exact hu_at k_1778 (Ne.symm d_1770)
        have k_1795 : f_1788 a_1777 = some (.inl (G 4, 8, .inr (.inr (.inr (.inr (fun _ => none)))))) := by rw [← ef_1788]; exact hu_at k_1779 (hne (3, 12) (3, 8) k_1786 k_1779 rfl rfl (by decide))
        have k_1796 : f_1788 q_1649 = some (.inl (G 3, 12, .inr (.inr (.inr (.inr (va_up (va_up (va_up (fun _ => none) (Int32.toNatClampNeg 0) (some q_1673)) (Int32.toNatClampNeg 1) (some q_1715)) (Int32.toNatClampNeg 2) (some q_1757))))))) := by rw [← ef_1788]; exact hu_self _ _ _
        have o_1797 := ol_upn ef_1788 z_1663 o_1787
        refine lv_iinc (v := 3) (lv' := [(1, .int 3), (0, .ref x)]) hx hb dX0_init_56 hl (k := 0) rfl (by decide) (by decide) rfl (fun ls hl => ?_)
        refine lv_goto (tgt := 37) hx hb dX0_init_59 (by decide) ?_
        refine lv_iload_n hx hb dX0_init_37 rfl (lv_at hl 0 rfl) ?_
        refine lv_bipush (v := 12) hx hb dX0_init_38 (by decide) ?_
        refine lv_icmp_ge (tgt := 62) hx hb dX0_init_40 (by decide) (fun c_1798 => ?_) (fun c_1798 => ?_)
        · exact absurd c_1798 (by decide)
        · refine lv_aload_n hx hb dX0_init_43 rfl (lv_at hl 1 rfl) ?_
          refine q_get C h k_1793 fl_X0_21 (v := .ref q_1649) rfl dX0_init_44 ?_
          refine lv_iload_n hx hb dX0_init_47 rfl (lv_at hl 0 rfl) ?_
          refine q_new C h nw_X0_9 (Nat.le_of_ble_eq_true rfl) (Nat.le_of_ble_eq_true rfl) dX0_init_48 (fun q_1799 H nq_1799 h => ?_)
          generalize ef_1800 : hu f_1788 q_1799 (.inr (6, [.null, .int 0])) = f_1800 at h
          have d_1802 : q_1599 ≠ q_1799 := (hne0 nq_1799 k_1789)
          have k_1801 : f_1800 q_1599 = some (.inr (6, [.ref a_1609, .int 0])) := by rw [← ef_1800]; exact hu_at k_1789 d_1802
          have d_1804 : a_1609 ≠ q_1799 := (hne0 nq_1799 k_1790)
          have k_1803 : f_1800 a_1609 = some (.inl (G 4, 8, .inr (.inr (.inr (.inr (fun _ => none)))))) := by rw [← ef_1800]; exact hu_at k_1790 d_1804
          have d_1806 : q_1620 ≠ q_1799 := (hne0 nq_1799 k_1791)
          have k_1805 : f_1800 q_1620 = some (.inr (6, [.ref a_1634, .int 0])) := by rw [← ef_1800]; exact hu_at k_1791 d_1806
          have d_1808 : a_1634 ≠ q_1799 := (hne0 nq_1799 k_1792)
          have k_1807 : f_1800 a_1634 = some (.inl (G 4, 8, .inr (.inr (.inr (.inr (fun _ => none)))))) := by rw [← ef_1800]; exact hu_at k_1792 d_1808
          have d_1810 : x ≠ q_1799 := (hne0 nq_1799 k_1793)
          have k_1809 : f_1800 x = some (.inr (1, [.int 0, .ref q_1599, .ref q_1620, .ref q_1649, .int 0, .int 0])) := by rw [← ef_1800]; exact hu_at k_1793 d_1810
          have d_1812 : q_1649 ≠ q_1799 := (hne0 nq_1799 k_1796)
          have k_1811 : f_1800 q_1649 = some (.inl (G 3, 12, .inr (.inr (.inr (.inr (va_up (va_up (va_up (fun _ => none) (Int32.toNatClampNeg 0) (some q_1673)) (Int32.toNatClampNeg 1) (some q_1715)) (Int32.toNatClampNeg 2) (some q_1757))))))) := by rw [← ef_1800]; exact hu_at k_1796 d_1812
          have k_1813 : f_1800 q_1799 = some (.inr (6, [.null, .int 0])) := by rw [← ef_1800]; exact hu_self _ _ _
          have z_1815 : f q_1799 = none := ol_none o_1797 nq_1799 k_1793
          have o_1814 := ol_upn ef_1800 z_1815 o_1797
          refine lv_dup hx hb dX0_init_51 rfl ?_
          refine k_v (r_I C h hl (As := []) (rest := [.ref q_1799, .int 3, .ref q_1649]) (c_X5_init l D G b0 f_1800 q_1799 k_1813) mk_X5_init rfl w_170 w_171 w_172 ⟨Nat.le_of_ble_eq_true rfl, Nat.le_of_ble_eq_true rfl⟩ rfl (Nat.le_of_ble_eq_true rfl) ⟨Nat.le_of_ble_eq_true rfl, Nat.le_of_ble_eq_true rfl⟩ rfl dX0_init_52) h (fun f_1817 H locs p_1818 h => ?_)
          obtain ⟨a_1819, k_1820, k_1821, u_1822⟩ := p_1818
          have k_1823 : f_1817 q_1599 = some (.inr (6, [.ref a_1609, .int 0])) := ol_at u_1822 k_1801 d_1802
          have k_1824 : f_1817 a_1609 = some (.inl (G 4, 8, .inr (.inr (.inr (.inr (fun _ => none)))))) := ol_at u_1822 k_1803 d_1804
          have k_1825 : f_1817 q_1620 = some (.inr (6, [.ref a_1634, .int 0])) := ol_at u_1822 k_1805 d_1806
          have k_1826 : f_1817 a_1634 = some (.inl (G 4, 8, .inr (.inr (.inr (.inr (fun _ => none)))))) := ol_at u_1822 k_1807 d_1808
          have k_1827 : f_1817 x = some (.inr (1, [.int 0, .ref q_1599, .ref q_1620, .ref q_1649, .int 0, .int 0])) := ol_at u_1822 k_1809 d_1810
          have k_1828 : f_1817 q_1649 = some (.inl (G 3, 12, .inr (.inr (.inr (.inr (va_up (va_up (va_up (fun _ => none) (Int32.toNatClampNeg 0) (some q_1673)) (Int32.toNatClampNeg 1) (some q_1715)) (Int32.toNatClampNeg 2) (some q_1757))))))) := ol_at u_1822 k_1811 d_1812
          have o_1829 := ol_rel u_1822 z_1815 o_1814
          refine q_aast C h 3 6 (rr := (RX5, TX5, 2)) rfl rfl k_1828 k_1820 (by unfold vp_in; decide) dX0_init_55 (fun H locs h => ?_)
          generalize ef_1830 : hu f_1817 q_1649 (.inl (G 3, 12, .inr (.inr (.inr (.inr (va_up (va_up (va_up (va_up (fun _ => none) (Int32.toNatClampNeg 0) (some q_1673)) (Int32.toNatClampNeg 1) (some q_1715)) (Int32.toNatClampNeg 2) (some q_1757)) (Int32.toNatClampNeg 3) (some q_1799))))))) = f_1830 at h
          have k_1831 : f_1830 q_1599 = some (.inr (6, [.ref a_1609, .int 0])) := by rw [← ef_1830]; exact hu_at k_1823 d_1652
          have k_1832 : f_1830 a_1609 = some (.inl (G 4, 8, .inr (.inr (.inr (.inr (fun _ => none)))))) := by rw [← ef_1830]; exact hu_at k_1824 d_1654
          have k_1833 : f_1830 q_1620 = some (.inr (6, [.ref a_1634, .int 0])) := by rw [← ef_1830]; exact hu_at k_1825 d_1656
          have k_1834 : f_1830 a_1634 = some (.inl (G 4, 8, .inr (.inr (.inr (.inr (fun _ => none)))))) := by rw [← ef_1830]; exact hu_at k_1826 d_1658
          have k_1835 : f_1830 x = some (.inr (1, [.int 0, .ref q_1599, .ref q_1620, .ref q_1649, .int 0, .int 0])) := by rw [← ef_1830]; exact hu_at k_1827 d_1660
          have k_1836 : f_1830 q_1799 = some (.inr (6, [.ref a_1819, .int 0])) := by rw [← ef_1830]; exact hu_at k_1820 (Ne.symm d_1812)
          have k_1837 : f_1830 a_1819 = some (.inl (G 4, 8, .inr (.inr (.inr (.inr (fun _ => none)))))) := by rw [← ef_1830]; exact hu_at k_1821 (hne (3, 12) (3, 8) k_1828 k_1821 rfl rfl (by decide))
          have k_1838 : f_1830 q_1649 = some (.inl (G 3, 12, .inr (.inr (.inr (.inr (va_up (va_up (va_up (va_up (fun _ => none) (Int32.toNatClampNeg 0) (some q_1673)) (Int32.toNatClampNeg 1) (some q_1715)) (Int32.toNatClampNeg 2) (some q_1757)) (Int32.toNatClampNeg 3) (some q_1799))))))) := by rw [← ef_1830]; exact hu_self _ _ _
          have o_1839 := ol_upn ef_1830 z_1663 o_1829
          refine lv_iinc (v := 4) (lv' := [(1, .int 4), (0, .ref x)]) hx hb dX0_init_56 hl (k := 0) rfl (by decide) (by decide) rfl (fun ls hl => ?_)
          refine lv_goto (tgt := 37) hx hb dX0_init_59 (by decide) ?_
          refine lv_iload_n hx hb dX0_init_37 rfl (lv_at hl 0 rfl) ?_
          refine lv_bipush (v := 12) hx hb dX0_init_38 (by decide) ?_
          refine lv_icmp_ge (tgt := 62) hx hb dX0_init_40 (by decide) (fun c_1840 => ?_) (fun c_1840 => ?_)
          · exact absurd c_1840 (by decide)
          · refine lv_aload_n hx hb dX0_init_43 rfl (lv_at hl 1 rfl) ?_
            refine q_get C h k_1835 fl_X0_21 (v := .ref q_1649) rfl dX0_init_44 ?_
            refine lv_iload_n hx hb dX0_init_47 rfl (lv_at hl 0 rfl) ?_
            refine q_new C h nw_X0_9 (Nat.le_of_ble_eq_true rfl) (Nat.le_of_ble_eq_true rfl) dX0_init_48 (fun q_1841 H nq_1841 h => ?_)
            generalize ef_1842 : hu f_1830 q_1841 (.inr (6, [.null, .int 0])) = f_1842 at h
            have d_1844 : q_1599 ≠ q_1841 := (hne0 nq_1841 k_1831)
            have k_1843 : f_1842 q_1599 = some (.inr (6, [.ref a_1609, .int 0])) := by rw [← ef_1842]; exact hu_at k_1831 d_1844
            have d_1846 : a_1609 ≠ q_1841 := (hne0 nq_1841 k_1832)
            have k_1845 : f_1842 a_1609 = some (.inl (G 4, 8, .inr (.inr (.inr (.inr (fun _ => none)))))) := by rw [← ef_1842]; exact hu_at k_1832 d_1846
            have d_1848 : q_1620 ≠ q_1841 := (hne0 nq_1841 k_1833)
            have k_1847 : f_1842 q_1620 = some (.inr (6, [.ref a_1634, .int 0])) := by rw [← ef_1842]; exact hu_at k_1833 d_1848
            have d_1850 : a_1634 ≠ q_1841 := (hne0 nq_1841 k_1834)
            have k_1849 : f_1842 a_1634 = some (.inl (G 4, 8, .inr (.inr (.inr (.inr (fun _ => none)))))) := by rw [← ef_1842]; exact hu_at k_1834 d_1850
            have d_1852 : x ≠ q_1841 := (hne0 nq_1841 k_1835)
            have k_1851 : f_1842 x = some (.inr (1, [.int 0, .ref q_1599, .ref q_1620, .ref q_1649, .int 0, .int 0])) := by rw [← ef_1842]; exact hu_at k_1835 d_1852
            have d_1854 : q_1649 ≠ q_1841 := (hne0 nq_1841 k_1838)
            have k_1853 : f_1842 q_1649 = some (.inl (G 3, 12, .inr (.inr (.inr (.inr (va_up (va_up (va_up (va_up (fun _ => none) (Int32.toNatClampNeg 0) (some q_1673)) (Int32.toNatClampNeg 1) (some q_1715)) (Int32.toNatClampNeg 2) (some q_1757)) (Int32.toNatClampNeg 3) (some q_1799))))))) := by rw [← ef_1842]; exact hu_at k_1838 d_1854
            have k_1855 : f_1842 q_1841 = some (.inr (6, [.null, .int 0])) := by rw [← ef_1842]; exact hu_self _ _ _
            have z_1857 : f q_1841 = none := ol_none o_1839 nq_1841 k_1835
            have o_1856 := ol_upn ef_1842 z_1857 o_1839
            refine lv_dup hx hb dX0_init_51 rfl ?_
            refine k_v (r_I C h hl (As := []) (rest := [.ref q_1841, .int 4, .ref q_1649]) (c_X5_init l D G b0 f_1842 q_1841 k_1855) mk_X5_init rfl w_170 w_171 w_172 ⟨Nat.le_of_ble_eq_true rfl, Nat.le_of_ble_eq_true rfl⟩ rfl (Nat.le_of_ble_eq_true rfl) ⟨Nat.le_of_ble_eq_true rfl, Nat.le_of_ble_eq_true rfl⟩ rfl dX0_init_52) h (fun f_1859 H locs p_1860 h => ?_)
            obtain ⟨a_1861, k_1862, k_1863, u_1864⟩ := p_1860
            have k_1865 : f_1859 q_1599 = some (.inr (6, [.ref a_1609, .int 0])) := ol_at u_1864 k_1843 d_1844
            have k_1866 : f_1859 a_1609 = some (.inl (G 4, 8, .inr (.inr (.inr (.inr (fun _ => none)))))) := ol_at u_1864 k_1845 d_1846
            have k_1867 : f_1859 q_1620 = some (.inr (6, [.ref a_1634, .int 0])) := ol_at u_1864 k_1847 d_1848
            have k_1868 : f_1859 a_1634 = some (.inl (G 4, 8, .inr (.inr (.inr (.inr (fun _ => none)))))) := ol_at u_1864 k_1849 d_1850
            have k_1869 : f_1859 x = some (.inr (1, [.int 0, .ref q_1599, .ref q_1620, .ref q_1649, .int 0, .int 0])) := ol_at u_1864 k_1851 d_1852
            have k_1870 : f_1859 q_1649 = some (.inl (G 3, 12, .inr (.inr (.inr (.inr (va_up (va_up (va_up (va_up (fun _ => none) (Int32.toNatClampNeg 0) (some q_1673)) (Int32.toNatClampNeg 1) (some q_1715)) (Int32.toNatClampNeg 2) (some q_1757)) (Int32.toNatClampNeg 3) (some q_1799))))))) := ol_at u_1864 k_1853 d_1854
            have o_1871 := ol_rel u_1864 z_1857 o_1856
            refine q_aast C h 3 6 (rr := (RX5, TX5, 2)) rfl rfl k_1870 k_1862 (by unfold vp_in; decide) dX0_init_55 (fun H locs h => ?_)
            generalize ef_1872 : hu f_1859 q_1649 (.inl (G 3, 12, .inr (.inr (.inr (.inr (va_up (va_up (va_up (va_up (va_up (fun _ => none) (Int32.toNatClampNeg 0) (some q_1673)) (Int32.toNatClampNeg 1) (some q_1715)) (Int32.toNatClampNeg 2) (some q_1757)) (Int32.toNatClampNeg 3) (some q_1799)) (Int32.toNatClampNeg 4) (some q_1841))))))) = f_1872 at h
            have k_1873 : f_1872 q_1599 = some (.inr (6, [.ref a_1609, .int 0])) := by rw [← ef_1872]; exact hu_at k_1865 d_1652
            have k_1874 : f_1872 a_1609 = some (.inl (G 4, 8, .inr (.inr (.inr (.inr (fun _ => none)))))) := by rw [← ef_1872]; exact hu_at k_1866 d_1654
            have k_1875 : f_1872 q_1620 = some (.inr (6, [.ref a_1634, .int 0])) := by rw [← ef_1872]; exact hu_at k_1867 d_1656
            have k_1876 : f_1872 a_1634 = some (.inl (G 4, 8, .inr (.inr (.inr (.inr (fun _ => none)))))) := by rw [← ef_1872]; exact hu_at k_1868 d_1658
            have k_1877 : f_1872 x = some (.inr (1, [.int 0, .ref q_1599, .ref q_1620, .ref q_1649, .int 0, .int 0])) := by rw [← ef_1872]; exact hu_at k_1869 d_1660
            have k_1878 : f_1872 q_1841 = some (.inr (6, [.ref a_1861, .int 0])) := by rw [← ef_1872]; exact hu_at k_1862 (Ne.symm d_1854)
            have k_1879 : f_1872 a_1861 = some (.inl (G 4, 8, .inr (.inr (.inr (.inr (fun _ => none)))))) := by rw [← ef_1872]; exact hu_at k_1863 (hne (3, 12) (3, 8) k_1870 k_1863 rfl rfl (by decide))
            have k_1880 : f_1872 q_1649 = some (.inl (G 3, 12, .inr (.inr (.inr (.inr (va_up (va_up (va_up (va_up (va_up (fun _ => none) (Int32.toNatClampNeg 0) (some q_1673)) (Int32.toNatClampNeg 1) (some q_1715)) (Int32.toNatClampNeg 2) (some q_1757)) (Int32.toNatClampNeg 3) (some q_1799)) (Int32.toNatClampNeg 4) (some q_1841))))))) := by rw [← ef_1872]; exact hu_self _ _ _
            have o_1881 := ol_upn ef_1872 z_1663 o_1871
            refine lv_iinc (v := 5) (lv' := [(1, .int 5), (0, .ref x)]) hx hb dX0_init_56 hl (k := 0) rfl (by decide) (by decide) rfl (fun ls hl => ?_)
            refine lv_goto (tgt := 37) hx hb dX0_init_59 (by decide) ?_
            refine lv_iload_n hx hb dX0_init_37 rfl (lv_at hl 0 rfl) ?_
            refine lv_bipush (v := 12) hx hb dX0_init_38 (by decide) ?_
            refine lv_icmp_ge (tgt := 62) hx hb dX0_init_40 (by decide) (fun c_1882 => ?_) (fun c_1882 => ?_)
            · exact absurd c_1882 (by decide)
            · refine lv_aload_n hx hb dX0_init_43 rfl (lv_at hl 1 rfl) ?_
              refine q_get C h k_1877 fl_X0_21 (v := .ref q_1649) rfl dX0_init_44 ?_
              refine lv_iload_n hx hb dX0_init_47 rfl (lv_at hl 0 rfl) ?_
              refine q_new C h nw_X0_9 (Nat.le_of_ble_eq_true rfl) (Nat.le_of_ble_eq_true rfl) dX0_init_48 (fun q_1883 H nq_1883 h => ?_)
              generalize ef_1884 : hu f_1872 q_1883 (.inr (6, [.null, .int 0])) = f_1884 at h
              have d_1886 : q_1599 ≠ q_1883 := (hne0 nq_1883 k_1873)
              have k_1885 : f_1884 q_1599 = some (.inr (6, [.ref a_1609, .int 0])) := by rw [← ef_1884]; exact hu_at k_1873 d_1886
              have d_1888 : a_1609 ≠ q_1883 := (hne0 nq_1883 k_1874)
              have k_1887 : f_1884 a_1609 = some (.inl (G 4, 8, .inr (.inr (.inr (.inr (fun _ => none)))))) := by rw [← ef_1884]; exact hu_at k_1874 d_1888
              have d_1890 : q_1620 ≠ q_1883 := (hne0 nq_1883 k_1875)
              have k_1889 : f_1884 q_1620 = some (.inr (6, [.ref a_1634, .int 0])) := by rw [← ef_1884]; exact hu_at k_1875 d_1890
              have d_1892 : a_1634 ≠ q_1883 := (hne0 nq_1883 k_1876)
              have k_1891 : f_1884 a_1634 = some (.inl (G 4, 8, .inr (.inr (.inr (.inr (fun _ => none)))))) := by rw [← ef_1884]; exact hu_at k_1876 d_1892
              have d_1894 : x ≠ q_1883 := (hne0 nq_1883 k_1877)
              have k_1893 : f_1884 x = some (.inr (1, [.int 0, .ref q_1599, .ref q_1620, .ref q_1649, .int 0, .int 0])) := by rw [← ef_1884]; exact hu_at k_1877 d_1894
              have d_1896 : q_1649 ≠ q_1883 := (hne0 nq_1883 k_1880)
              have k_1895 : f_1884 q_1649 = some (.inl (G 3, 12, .inr (.inr (.inr (.inr (va_up (va_up (va_up (va_up (va_up (fun _ => none) (Int32.toNatClampNeg 0) (some q_1673)) (Int32.toNatClampNeg 1) (some q_1715)) (Int32.toNatClampNeg 2) (some q_1757)) (Int32.toNatClampNeg 3) (some q_1799)) (Int32.toNatClampNeg 4) (some q_1841))))))) := by rw [← ef_1884]; exact hu_at k_1880 d_1896
              have k_1897 : f_1884 q_1883 = some (.inr (6, [.null, .int 0])) := by rw [← ef_1884]; exact hu_self _ _ _
              have z_1899 : f q_1883 = none := ol_none o_1881 nq_1883 k_1877
              have o_1898 := ol_upn ef_1884 z_1899 o_1881
              refine lv_dup hx hb dX0_init_51 rfl ?_
              refine k_v (r_I C h hl (As := []) (rest := [.ref q_1883, .int 5, .ref q_1649]) (c_X5_init l D G b0 f_1884 q_1883 k_1897) mk_X5_init rfl w_170 w_171 w_172 ⟨Nat.le_of_ble_eq_true rfl, Nat.le_of_ble_eq_true rfl⟩ rfl (Nat.le_of_ble_eq_true rfl) ⟨Nat.le_of_ble_eq_true rfl, Nat.le_of_ble_eq_true rfl⟩ rfl dX0_init_52) h (fun f_1901 H locs p_1902 h => ?_)
              obtain ⟨a_1903, k_1904, k_1905, u_1906⟩ := p_1902
              have k_1907 : f_1901 q_1599 = some (.inr (6, [.ref a_1609, .int 0])) := ol_at u_1906 k_1885 d_1886
              have k_1908 : f_1901 a_1609 = some (.inl (G 4, 8, .inr (.inr (.inr (.inr (fun _ => none)))))) := ol_at u_1906 k_1887 d_1888
              have k_1909 : f_1901 q_1620 = some (.inr (6, [.ref a_1634, .int 0])) := ol_at u_1906 k_1889 d_1890
              have k_1910 : f_1901 a_1634 = some (.inl (G 4, 8, .inr (.inr (.inr (.inr (fun _ => none)))))) := ol_at u_1906 k_1891 d_1892
              have k_1911 : f_1901 x = some (.inr (1, [.int 0, .ref q_1599, .ref q_1620, .ref q_1649, .int 0, .int 0])) := ol_at u_1906 k_1893 d_1894
              have k_1912 : f_1901 q_1649 = some (.inl (G 3, 12, .inr (.inr (.inr (.inr (va_up (va_up (va_up (va_up (va_up (fun _ => none) (Int32.toNatClampNeg 0) (some q_1673)) (Int32.toNatClampNeg 1) (some q_1715)) (Int32.toNatClampNeg 2) (some q_1757)) (Int32.toNatClampNeg 3) (some q_1799)) (Int32.toNatClampNeg 4) (some q_1841))))))) := ol_at u_1906 k_1895 d_1896
              have o_1913 := ol_rel u_1906 z_1899 o_1898
              refine q_aast C h 3 6 (rr := (RX5, TX5, 2)) rfl rfl k_1912 k_1904 (by unfold vp_in; decide) dX0_init_55 (fun H locs h => ?_)
              generalize ef_1914 : hu f_1901 q_1649 (.inl (G 3, 12, .inr (.inr (.inr (.inr (va_up (va_up (va_up (va_up (va_up (va_up (fun _ => none) (Int32.toNatClampNeg 0) (some q_1673)) (Int32.toNatClampNeg 1) (some q_1715)) (Int32.toNatClampNeg 2) (some q_1757)) (Int32.toNatClampNeg 3) (some q_1799)) (Int32.toNatClampNeg 4) (some q_1841)) (Int32.toNatClampNeg 5) (some q_1883))))))) = f_1914 at h
              have k_1915 : f_1914 q_1599 = some (.inr (6, [.ref a_1609, .int 0])) := by rw [← ef_1914]; exact hu_at k_1907 d_1652
              have k_1916 : f_1914 a_1609 = some (.inl (G 4, 8, .inr (.inr (.inr (.inr (fun _ => none)))))) := by rw [← ef_1914]; exact hu_at k_1908 d_1654
              have k_1917 : f_1914 q_1620 = some (.inr (6, [.ref a_1634, .int 0])) := by rw [← ef_1914]; exact hu_at k_1909 d_1656
              have k_1918 : f_1914 a_1634 = some (.inl (G 4, 8, .inr (.inr (.inr (.inr (fun _ => none)))))) := by rw [← ef_1914]; exact hu_at k_1910 d_1658
              have k_1919 : f_1914 x = some (.inr (1, [.int 0, .ref q_1599, .ref q_1620, .ref q_1649, .int 0, .int 0])) := by rw [← ef_1914]; exact hu_at k_1911 d_1660
              have k_1920 : f_1914 q_1883 = some (.inr (6, [.ref a_1903, .int 0])) := by rw [← ef_1914]; exact hu_at k_1904 (Ne.symm d_1896)
              have k_1921 : f_1914 a_1903 = some (.inl (G 4, 8, .inr (.inr (.inr (.inr (fun _ => none)))))) := by rw [← ef_1914]; exact hu_at k_1905 (hne (3, 12) (3, 8) k_1912 k_1905 rfl rfl (by decide))
              have k_1922 : f_1914 q_1649 = some (.inl (G 3, 12, .inr (.inr (.inr (.inr (va_up (va_up (va_up (va_up (va_up (va_up (fun _ => none) (Int32.toNatClampNeg 0) (some q_1673)) (Int32.toNatClampNeg 1) (some q_1715)) (Int32.toNatClampNeg 2) (some q_1757)) (Int32.toNatClampNeg 3) (some q_1799)) (Int32.toNatClampNeg 4) (some q_1841)) (Int32.toNatClampNeg 5) (some q_1883))))))) := by rw [← ef_1914]; exact hu_self _ _ _
              have o_1923 := ol_upn ef_1914 z_1663 o_1913
              refine lv_iinc (v := 6) (lv' := [(1, .int 6), (0, .ref x)]) hx hb dX0_init_56 hl (k := 0) rfl (by decide) (by decide) rfl (fun ls hl => ?_)
              refine lv_goto (tgt := 37) hx hb dX0_init_59 (by decide) ?_
              refine lv_iload_n hx hb dX0_init_37 rfl (lv_at hl 0 rfl) ?_
              refine lv_bipush (v := 12) hx hb dX0_init_38 (by decide) ?_
              refine lv_icmp_ge (tgt := 62) hx hb dX0_init_40 (by decide) (fun c_1924 => ?_) (fun c_1924 => ?_)
              · exact absurd c_1924 (by decide)
              · refine lv_aload_n hx hb dX0_init_43 rfl (lv_at hl 1 rfl) ?_
                refine q_get C h k_1919 fl_X0_21 (v := .ref q_1649) rfl dX0_init_44 ?_
                refine lv_iload_n hx hb dX0_init_47 rfl (lv_at hl 0 rfl) ?_
                refine q_new C h nw_X0_9 (Nat.le_of_ble_eq_true rfl) (Nat.le_of_ble_eq_true rfl) dX0_init_48 (fun q_1925 H nq_1925 h => ?_)
                generalize ef_1926 : hu f_1914 q_1925 (.inr (6, [.null, .int 0])) = f_1926 at h
                have d_1928 : q_1599 ≠ q_1925 := (hne0 nq_1925 k_1915)
                have k_1927 : f_1926 q_1599 = some (.inr (6, [.ref a_1609, .int 0])) := by rw [← ef_1926]; exact hu_at k_1915 d_1928
                have d_1930 : a_1609 ≠ q_1925 := (hne0 nq_1925 k_1916)
                have k_1929 : f_1926 a_1609 = some (.inl (G 4, 8, .inr (.inr (.inr (.inr (fun _ => none)))))) := by rw [← ef_1926]; exact hu_at k_1916 d_1930
                have d_1932 : q_1620 ≠ q_1925 := (hne0 nq_1925 k_1917)
                have k_1931 : f_1926 q_1620 = some (.inr (6, [.ref a_1634, .int 0])) := by rw [← ef_1926]; exact hu_at k_1917 d_1932
                have d_1934 : a_1634 ≠ q_1925 := (hne0 nq_1925 k_1918)
                have k_1933 : f_1926 a_1634 = some (.inl (G 4, 8, .inr (.inr (.inr (.inr (fun _ => none)))))) := by rw [← ef_1926]; exact hu_at k_1918 d_1934
                have d_1936 : x ≠ q_1925 := (hne0 nq_1925 k_1919)
                have k_1935 : f_1926 x = some (.inr (1, [.int 0, .ref q_1599, .ref q_1620, .ref q_1649, .int 0, .int 0])) := by rw [← ef_1926]; exact hu_at k_1919 d_1936
                have d_1938 : q_1649 ≠ q_1925 := (hne0 nq_1925 k_1922)
                have k_1937 : f_1926 q_1649 = some (.inl (G 3, 12, .inr (.inr (.inr (.inr (va_up (va_up (va_up (va_up (va_up (va_up (fun _ => none) (Int32.toNatClampNeg 0) (some q_1673)) (Int32.toNatClampNeg 1) (some q_1715)) (Int32.toNatClampNeg 2) (some q_1757)) (Int32.toNatClampNeg 3) (some q_1799)) (Int32.toNatClampNeg 4) (some q_1841)) (Int32.toNatClampNeg 5) (some q_1883))))))) := by rw [← ef_1926]; exact hu_at k_1922 d_1938
                have k_1939 : f_1926 q_1925 = some (.inr (6, [.null, .int 0])) := by rw [← ef_1926]; exact hu_self _ _ _
                have z_1941 : f q_1925 = none := ol_none o_1923 nq_1925 k_1919
                have o_1940 := ol_upn ef_1926 z_1941 o_1923
                refine lv_dup hx hb dX0_init_51 rfl ?_
                refine k_v (r_I C h hl (As := []) (rest := [.ref q_1925, .int 6, .ref q_1649]) (c_X5_init l D G b0 f_1926 q_1925 k_1939) mk_X5_init rfl w_170 w_171 w_172 ⟨Nat.le_of_ble_eq_true rfl, Nat.le_of_ble_eq_true rfl⟩ rfl (Nat.le_of_ble_eq_true rfl) ⟨Nat.le_of_ble_eq_true rfl, Nat.le_of_ble_eq_true rfl⟩ rfl dX0_init_52) h (fun f_1943 H locs p_1944 h => ?_)
                obtain ⟨a_1945, k_1946, k_1947, u_1948⟩ := p_1944
                have k_1949 : f_1943 q_1599 = some (.inr (6, [.ref a_1609, .int 0])) := ol_at u_1948 k_1927 d_1928
                have k_1950 : f_1943 a_1609 = some (.inl (G 4, 8, .inr (.inr (.inr (.inr (fun _ => none)))))) := ol_at u_1948 k_1929 d_1930
                have k_1951 : f_1943 q_1620 = some (.inr (6, [.ref a_1634, .int 0])) := ol_at u_1948 k_1931 d_1932
                have k_1952 : f_1943 a_1634 = some (.inl (G 4, 8, .inr (.inr (.inr (.inr (fun _ => none)))))) := ol_at u_1948 k_1933 d_1934
                have k_1953 : f_1943 x = some (.inr (1, [.int 0, .ref q_1599, .ref q_1620, .ref q_1649, .int 0, .int 0])) := ol_at u_1948 k_1935 d_1936
                have k_1954 : f_1943 q_1649 = some (.inl (G 3, 12, .inr (.inr (.inr (.inr (va_up (va_up (va_up (va_up (va_up (va_up (fun _ => none) (Int32.toNatClampNeg 0) (some q_1673)) (Int32.toNatClampNeg 1) (some q_1715)) (Int32.toNatClampNeg 2) (some q_1757)) (Int32.toNatClampNeg 3) (some q_1799)) (Int32.toNatClampNeg 4) (some q_1841)) (Int32.toNatClampNeg 5) (some q_1883))))))) := ol_at u_1948 k_1937 d_1938
                have o_1955 := ol_rel u_1948 z_1941 o_1940
                refine q_aast C h 3 6 (rr := (RX5, TX5, 2)) rfl rfl k_1954 k_1946 (by unfold vp_in; decide) dX0_init_55 (fun H locs h => ?_)
                generalize ef_1956 : hu f_1943 q_1649 (.inl (G 3, 12, .inr (.inr (.inr (.inr (va_up (va_up (va_up (va_up (va_up (va_up (va_up (fun _ => none) (Int32.toNatClampNeg 0) (some q_1673)) (Int32.toNatClampNeg 1) (some q_1715)) (Int32.toNatClampNeg 2) (some q_1757)) (Int32.toNatClampNeg 3) (some q_1799)) (Int32.toNatClampNeg 4) (some q_1841)) (Int32.toNatClampNeg 5) (some q_1883)) (Int32.toNatClampNeg 6) (some q_1925))))))) = f_1956 at h
                have k_1957 : f_1956 q_1599 = some (.inr (6, [.ref a_1609, .int 0])) := by rw [← ef_1956]; exact hu_at k_1949 d_1652
                have k_1958 : f_1956 a_1609 = some (.inl (G 4, 8, .inr (.inr (.inr (.inr (fun _ => none)))))) := by rw [← ef_1956]; exact hu_at k_1950 d_1654
                have k_1959 : f_1956 q_1620 = some (.inr (6, [.ref a_1634, .int 0])) := by rw [← ef_1956]; exact hu_at k_1951 d_1656
                have k_1960 : f_1956 a_1634 = some (.inl (G 4, 8, .inr (.inr (.inr (.inr (fun _ => none)))))) := by rw [← ef_1956]; exact hu_at k_1952 d_1658
                have k_1961 : f_1956 x = some (.inr (1, [.int 0, .ref q_1599, .ref q_1620, .ref q_1649, .int 0, .int 0])) := by rw [← ef_1956]; exact hu_at k_1953 d_1660
                have k_1962 : f_1956 q_1925 = some (.inr (6, [.ref a_1945, .int 0])) := by rw [← ef_1956]; exact hu_at k_1946 (Ne.symm d_1938)
                have k_1963 : f_1956 a_1945 = some (.inl (G 4, 8, .inr (.inr (.inr (.inr (fun _ => none)))))) := by rw [← ef_1956]; exact hu_at k_1947 (hne (3, 12) (3, 8) k_1954 k_1947 rfl rfl (by decide))
                have k_1964 : f_1956 q_1649 = some (.inl (G 3, 12, .inr (.inr (.inr (.inr (va_up (va_up (va_up (va_up (va_up (va_up (va_up (fun _ => none) (Int32.toNatClampNeg 0) (some q_1673)) (Int32.toNatClampNeg 1) (some q_1715)) (Int32.toNatClampNeg 2) (some q_1757)) (Int32.toNatClampNeg 3) (some q_1799)) (Int32.toNatClampNeg 4) (some q_1841)) (Int32.toNatClampNeg 5) (some q_1883)) (Int32.toNatClampNeg 6) (some q_1925))))))) := by rw [← ef_1956]; exact hu_self _ _ _
                have o_1965 := ol_upn ef_1956 z_1663 o_1955
                refine lv_iinc (v := 7) (lv' := [(1, .int 7), (0, .ref x)]) hx hb dX0_init_56 hl (k := 0) rfl (by decide) (by decide) rfl (fun ls hl => ?_)
                refine lv_goto (tgt := 37) hx hb dX0_init_59 (by decide) ?_
                refine lv_iload_n hx hb dX0_init_37 rfl (lv_at hl 0 rfl) ?_
                refine lv_bipush (v := 12) hx hb dX0_init_38 (by decide) ?_
                refine lv_icmp_ge (tgt := 62) hx hb dX0_init_40 (by decide) (fun c_1966 => ?_) (fun c_1966 => ?_)
                · exact absurd c_1966 (by decide)
                · refine lv_aload_n hx hb dX0_init_43 rfl (lv_at hl 1 rfl) ?_
                  refine q_get C h k_1961 fl_X0_21 (v := .ref q_1649) rfl dX0_init_44 ?_
                  refine lv_iload_n hx hb dX0_init_47 rfl (lv_at hl 0 rfl) ?_
                  refine q_new C h nw_X0_9 (Nat.le_of_ble_eq_true rfl) (Nat.le_of_ble_eq_true rfl) dX0_init_48 (fun q_1967 H nq_1967 h => ?_)
                  generalize ef_1968 : hu f_1956 q_1967 (.inr (6, [.null, .int 0])) = f_1968 at h
                  have d_1970 : q_1599 ≠ q_1967 := (hne0 nq_1967 k_1957)
                  have k_1969 : f_1968 q_1599 = some (.inr (6, [.ref a_1609, .int 0])) := by rw [← ef_1968]; exact hu_at k_1957 d_1970
                  have d_1972 : a_1609 ≠ q_1967 := (hne0 nq_1967 k_1958)
                  have k_1971 : f_1968 a_1609 = some (.inl (G 4, 8, .inr (.inr (.inr (.inr (fun _ => none)))))) := by rw [← ef_1968]; exact hu_at k_1958 d_1972
                  have d_1974 : q_1620 ≠ q_1967 := (hne0 nq_1967 k_1959)
                  have k_1973 : f_1968 q_1620 = some (.inr (6, [.ref a_1634, .int 0])) := by rw [← ef_1968]; exact hu_at k_1959 d_1974
                  have d_1976 : a_1634 ≠ q_1967 := (hne0 nq_1967 k_1960)
                  have k_1975 : f_1968 a_1634 = some (.inl (G 4, 8, .inr (.inr (.inr (.inr (fun _ => none)))))) := by rw [← ef_1968]; exact hu_at k_1960 d_1976
                  have d_1978 : x ≠ q_1967 := (hne0 nq_1967 k_1961)
                  have k_1977 : f_1968 x = some (.inr (1, [.int 0, .ref q_1599, .ref q_1620, .ref q_1649, .int 0, .int 0])) := by rw [← ef_1968]; exact hu_at k_1961 d_1978
                  have d_1980 : q_1649 ≠ q_1967 := (hne0 nq_1967 k_1964)
                  have k_1979 : f_1968 q_1649 = some (.inl (G 3, 12, .inr (.inr (.inr (.inr (va_up (va_up (va_up (va_up (va_up (va_up (va_up (fun _ => none) (Int32.toNatClampNeg 0) (some q_1673)) (Int32.toNatClampNeg 1) (some q_1715)) (Int32.toNatClampNeg 2) (some q_1757)) (Int32.toNatClampNeg 3) (some q_1799)) (Int32.toNatClampNeg 4) (some q_1841)) (Int32.toNatClampNeg 5) (some q_1883)) (Int32.toNatClampNeg 6) (some q_1925))))))) := by rw [← ef_1968]; exact hu_at k_1964 d_1980
                  have k_1981 : f_1968 q_1967 = some (.inr (6, [.null, .int 0])) := by rw [← ef_1968]; exact hu_self _ _ _
                  have z_1983 : f q_1967 = none := ol_none o_1965 nq_1967 k_1961
                  have o_1982 := ol_upn ef_1968 z_1983 o_1965
                  refine lv_dup hx hb dX0_init_51 rfl ?_
                  refine k_v (r_I C h hl (As := []) (rest := [.ref q_1967, .int 7, .ref q_1649]) (c_X5_init l D G b0 f_1968 q_1967 k_1981) mk_X5_init rfl w_170 w_171 w_172 ⟨Nat.le_of_ble_eq_true rfl, Nat.le_of_ble_eq_true rfl⟩ rfl (Nat.le_of_ble_eq_true rfl) ⟨Nat.le_of_ble_eq_true rfl, Nat.le_of_ble_eq_true rfl⟩ rfl dX0_init_52) h (fun f_1985 H locs p_1986 h => ?_)
                  obtain ⟨a_1987, k_1988, k_1989, u_1990⟩ := p_1986
                  have k_1991 : f_1985 q_1599 = some (.inr (6, [.ref a_1609, .int 0])) := ol_at u_1990 k_1969 d_1970
                  have k_1992 : f_1985 a_1609 = some (.inl (G 4, 8, .inr (.inr (.inr (.inr (fun _ => none)))))) := ol_at u_1990 k_1971 d_1972
                  have k_1993 : f_1985 q_1620 = some (.inr (6, [.ref a_1634, .int 0])) := ol_at u_1990 k_1973 d_1974
                  have k_1994 : f_1985 a_1634 = some (.inl (G 4, 8, .inr (.inr (.inr (.inr (fun _ => none)))))) := ol_at u_1990 k_1975 d_1976
                  have k_1995 : f_1985 x = some (.inr (1, [.int 0, .ref q_1599, .ref q_1620, .ref q_1649, .int 0, .int 0])) := ol_at u_1990 k_1977 d_1978
                  have k_1996 : f_1985 q_1649 = some (.inl (G 3, 12, .inr (.inr (.inr (.inr (va_up (va_up (va_up (va_up (va_up (va_up (va_up (fun _ => none) (Int32.toNatClampNeg 0) (some q_1673)) (Int32.toNatClampNeg 1) (some q_1715)) (Int32.toNatClampNeg 2) (some q_1757)) (Int32.toNatClampNeg 3) (some q_1799)) (Int32.toNatClampNeg 4) (some q_1841)) (Int32.toNatClampNeg 5) (some q_1883)) (Int32.toNatClampNeg 6) (some q_1925))))))) := ol_at u_1990 k_1979 d_1980
                  have o_1997 := ol_rel u_1990 z_1983 o_1982
                  refine q_aast C h 3 6 (rr := (RX5, TX5, 2)) rfl rfl k_1996 k_1988 (by unfold vp_in; decide) dX0_init_55 (fun H locs h => ?_)
                  generalize ef_1998 : hu f_1985 q_1649 (.inl (G 3, 12, .inr (.inr (.inr (.inr (va_up (va_up (va_up (va_up (va_up (va_up (va_up (va_up (fun _ => none) (Int32.toNatClampNeg 0) (some q_1673)) (Int32.toNatClampNeg 1) (some q_1715)) (Int32.toNatClampNeg 2) (some q_1757)) (Int32.toNatClampNeg 3) (some q_1799)) (Int32.toNatClampNeg 4) (some q_1841)) (Int32.toNatClampNeg 5) (some q_1883)) (Int32.toNatClampNeg 6) (some q_1925)) (Int32.toNatClampNeg 7) (some q_1967))))))) = f_1998 at h
                  have k_1999 : f_1998 q_1599 = some (.inr (6, [.ref a_1609, .int 0])) := by rw [← ef_1998]; exact hu_at k_1991 d_1652
                  have k_2000 : f_1998 a_1609 = some (.inl (G 4, 8, .inr (.inr (.inr (.inr (fun _ => none)))))) := by rw [← ef_1998]; exact hu_at k_1992 d_1654
                  have k_2001 : f_1998 q_1620 = some (.inr (6, [.ref a_1634, .int 0])) := by rw [← ef_1998]; exact hu_at k_1993 d_1656
                  have k_2002 : f_1998 a_1634 = some (.inl (G 4, 8, .inr (.inr (.inr (.inr (fun _ => none)))))) := by rw [← ef_1998]; exact hu_at k_1994 d_1658
                  have k_2003 : f_1998 x = some (.inr (1, [.int 0, .ref q_1599, .ref q_1620, .ref q_1649, .int 0, .int 0])) := by rw [← ef_1998]; exact hu_at k_1995 d_1660
                  have k_2004 : f_1998 q_1967 = some (.inr (6, [.ref a_1987, .int 0])) := by rw [← ef_1998]; exact hu_at k_1988 (Ne.symm d_1980)
                  have k_2005 : f_1998 a_1987 = some (.inl (G 4, 8, .inr (.inr (.inr (.inr (fun _ => none)))))) := by rw [← ef_1998]; exact hu_at k_1989 (hne (3, 12) (3, 8) k_1996 k_1989 rfl rfl (by decide))
                  have k_2006 : f_1998 q_1649 = some (.inl (G 3, 12, .inr (.inr (.inr (.inr (va_up (va_up (va_up (va_up (va_up (va_up (va_up (va_up (fun _ => none) (Int32.toNatClampNeg 0) (some q_1673)) (Int32.toNatClampNeg 1) (some q_1715)) (Int32.toNatClampNeg 2) (some q_1757)) (Int32.toNatClampNeg 3) (some q_1799)) (Int32.toNatClampNeg 4) (some q_1841)) (Int32.toNatClampNeg 5) (some q_1883)) (Int32.toNatClampNeg 6) (some q_1925)) (Int32.toNatClampNeg 7) (some q_1967))))))) := by rw [← ef_1998]; exact hu_self _ _ _
                  have o_2007 := ol_upn ef_1998 z_1663 o_1997
                  refine lv_iinc (v := 8) (lv' := [(1, .int 8), (0, .ref x)]) hx hb dX0_init_56 hl (k := 0) rfl (by decide) (by decide) rfl (fun ls hl => ?_)
                  refine lv_goto (tgt := 37) hx hb dX0_init_59 (by decide) ?_
                  refine lv_iload_n hx hb dX0_init_37 rfl (lv_at hl 0 rfl) ?_
                  refine lv_bipush (v := 12) hx hb dX0_init_38 (by decide) ?_
                  refine lv_icmp_ge (tgt := 62) hx hb dX0_init_40 (by decide) (fun c_2008 => ?_) (fun c_2008 => ?_)
                  · exact absurd c_2008 (by decide)
                  · refine lv_aload_n hx hb dX0_init_43 rfl (lv_at hl 1 rfl) ?_
                    refine q_get C h k_2003 fl_X0_21 (v := .ref q_1649) rfl dX0_init_44 ?_
                    refine lv_iload_n hx hb dX0_init_47 rfl (lv_at hl 0 rfl) ?_
                    refine q_new C h nw_X0_9 (Nat.le_of_ble_eq_true rfl) (Nat.le_of_ble_eq_true rfl) dX0_init_48 (fun q_2009 H nq_2009 h => ?_)
                    generalize ef_2010 : hu f_1998 q_2009 (.inr (6, [.null, .int 0])) = f_2010 at h
                    have d_2012 : q_1599 ≠ q_2009 := (hne0 nq_2009 k_1999)
                    have k_2011 : f_2010 q_1599 = some (.inr (6, [.ref a_1609, .int 0])) := by rw [← ef_2010]; exact hu_at k_1999 d_2012
                    have d_2014 : a_1609 ≠ q_2009 := (hne0 nq_2009 k_2000)
                    have k_2013 : f_2010 a_1609 = some (.inl (G 4, 8, .inr (.inr (.inr (.inr (fun _ => none)))))) := by rw [← ef_2010]; exact hu_at k_2000 d_2014
                    have d_2016 : q_1620 ≠ q_2009 := (hne0 nq_2009 k_2001)
                    have k_2015 : f_2010 q_1620 = some (.inr (6, [.ref a_1634, .int 0])) := by rw [← ef_2010]; exact hu_at k_2001 d_2016
                    have d_2018 : a_1634 ≠ q_2009 := (hne0 nq_2009 k_2002)
                    have k_2017 : f_2010 a_1634 = some (.inl (G 4, 8, .inr (.inr (.inr (.inr (fun _ => none)))))) := by rw [← ef_2010]; exact hu_at k_2002 d_2018
                    have d_2020 : x ≠ q_2009 := (hne0 nq_2009 k_2003)
                    have k_2019 : f_2010 x = some (.inr (1, [.int 0, .ref q_1599, .ref q_1620, .ref q_1649, .int 0, .int 0])) := by rw [← ef_2010]; exact hu_at k_2003 d_2020
                    have d_2022 : q_1649 ≠ q_2009 := (hne0 nq_2009 k_2006)
                    have k_2021 : f_2010 q_1649 = some (.inl (G 3, 12, .inr (.inr (.inr (.inr (va_up (va_up (va_up (va_up (va_up (va_up (va_up (va_up (fun _ => none) (Int32.toNatClampNeg 0) (some q_1673)) (Int32.toNatClampNeg 1) (some q_1715)) (Int32.toNatClampNeg 2) (some q_1757)) (Int32.toNatClampNeg 3) (some q_1799)) (Int32.toNatClampNeg 4) (some q_1841)) (Int32.toNatClampNeg 5) (some q_1883)) (Int32.toNatClampNeg 6) (some q_1925)) (Int32.toNatClampNeg 7) (some q_1967))))))) := by rw [← ef_2010]; exact hu_at k_2006 d_2022
                    have k_2023 : f_2010 q_2009 = some (.inr (6, [.null, .int 0])) := by rw [← ef_2010]; exact hu_self _ _ _
                    have z_2025 : f q_2009 = none := ol_none o_2007 nq_2009 k_2003
                    have o_2024 := ol_upn ef_2010 z_2025 o_2007
                    refine lv_dup hx hb dX0_init_51 rfl ?_
                    refine k_v (r_I C h hl (As := []) (rest := [.ref q_2009, .int 8, .ref q_1649]) (c_X5_init l D G b0 f_2010 q_2009 k_2023) mk_X5_init rfl w_170 w_171 w_172 ⟨Nat.le_of_ble_eq_true rfl, Nat.le_of_ble_eq_true rfl⟩ rfl (Nat.le_of_ble_eq_true rfl) ⟨Nat.le_of_ble_eq_true rfl, Nat.le_of_ble_eq_true rfl⟩ rfl dX0_init_52) h (fun f_2027 H locs p_2028 h => ?_)
                    obtain ⟨a_2029, k_2030, k_2031, u_2032⟩ := p_2028
                    have k_2033 : f_2027 q_1599 = some (.inr (6, [.ref a_1609, .int 0])) := ol_at u_2032 k_2011 d_2012
                    have k_2034 : f_2027 a_1609 = some (.inl (G 4, 8, .inr (.inr (.inr (.inr (fun _ => none)))))) := ol_at u_2032 k_2013 d_2014
                    have k_2035 : f_2027 q_1620 = some (.inr (6, [.ref a_1634, .int 0])) := ol_at u_2032 k_2015 d_2016
                    have k_2036 : f_2027 a_1634 = some (.inl (G 4, 8, .inr (.inr (.inr (.inr (fun _ => none)))))) := ol_at u_2032 k_2017 d_2018
                    have k_2037 : f_2027 x = some (.inr (1, [.int 0, .ref q_1599, .ref q_1620, .ref q_1649, .int 0, .int 0])) := ol_at u_2032 k_2019 d_2020
                    have k_2038 : f_2027 q_1649 = some (.inl (G 3, 12, .inr (.inr (.inr (.inr (va_up (va_up (va_up (va_up (va_up (va_up (va_up (va_up (fun _ => none) (Int32.toNatClampNeg 0) (some q_1673)) (Int32.toNatClampNeg 1) (some q_1715)) (Int32.toNatClampNeg 2) (some q_1757)) (Int32.toNatClampNeg 3) (some q_1799)) (Int32.toNatClampNeg 4) (some q_1841)) (Int32.toNatClampNeg 5) (some q_1883)) (Int32.toNatClampNeg 6) (some q_1925)) (Int32.toNatClampNeg 7) (some q_1967))))))) := ol_at u_2032 k_2021 d_2022
                    have o_2039 := ol_rel u_2032 z_2025 o_2024
                    refine q_aast C h 3 6 (rr := (RX5, TX5, 2)) rfl rfl k_2038 k_2030 (by unfold vp_in; decide) dX0_init_55 (fun H locs h => ?_)
                    generalize ef_2040 : hu f_2027 q_1649 (.inl (G 3, 12, .inr (.inr (.inr (.inr (va_up (va_up (va_up (va_up (va_up (va_up (va_up (va_up (va_up (fun _ => none) (Int32.toNatClampNeg 0) (some q_1673)) (Int32.toNatClampNeg 1) (some q_1715)) (Int32.toNatClampNeg 2) (some q_1757)) (Int32.toNatClampNeg 3) (some q_1799)) (Int32.toNatClampNeg 4) (some q_1841)) (Int32.toNatClampNeg 5) (some q_1883)) (Int32.toNatClampNeg 6) (some q_1925)) (Int32.toNatClampNeg 7) (some q_1967)) (Int32.toNatClampNeg 8) (some q_2009))))))) = f_2040 at h
                    have k_2041 : f_2040 q_1599 = some (.inr (6, [.ref a_1609, .int 0])) := by rw [← ef_2040]; exact hu_at k_2033 d_1652
                    have k_2042 : f_2040 a_1609 = some (.inl (G 4, 8, .inr (.inr (.inr (.inr (fun _ => none)))))) := by rw [← ef_2040]; exact hu_at k_2034 d_1654
                    have k_2043 : f_2040 q_1620 = some (.inr (6, [.ref a_1634, .int 0])) := by rw [← ef_2040]; exact hu_at k_2035 d_1656
                    have k_2044 : f_2040 a_1634 = some (.inl (G 4, 8, .inr (.inr (.inr (.inr (fun _ => none)))))) := by rw [← ef_2040]; exact hu_at k_2036 d_1658
                    have k_2045 : f_2040 x = some (.inr (1, [.int 0, .ref q_1599, .ref q_1620, .ref q_1649, .int 0, .int 0])) := by rw [← ef_2040]; exact hu_at k_2037 d_1660
                    have k_2046 : f_2040 q_2009 = some (.inr (6, [.ref a_2029, .int 0])) := by rw [← ef_2040]; exact hu_at k_2030 (Ne.symm d_2022)
                    have k_2047 : f_2040 a_2029 = some (.inl (G 4, 8, .inr (.inr (.inr (.inr (fun _ => none)))))) := by rw [← ef_2040]; exact hu_at k_2031 (hne (3, 12) (3, 8) k_2038 k_2031 rfl rfl (by decide))
                    have k_2048 : f_2040 q_1649 = some (.inl (G 3, 12, .inr (.inr (.inr (.inr (va_up (va_up (va_up (va_up (va_up (va_up (va_up (va_up (va_up (fun _ => none) (Int32.toNatClampNeg 0) (some q_1673)) (Int32.toNatClampNeg 1) (some q_1715)) (Int32.toNatClampNeg 2) (some q_1757)) (Int32.toNatClampNeg 3) (some q_1799)) (Int32.toNatClampNeg 4) (some q_1841)) (Int32.toNatClampNeg 5) (some q_1883)) (Int32.toNatClampNeg 6) (some q_1925)) (Int32.toNatClampNeg 7) (some q_1967)) (Int32.toNatClampNeg 8) (some q_2009))))))) := by rw [← ef_2040]; exact hu_self _ _ _
                    have o_2049 := ol_upn ef_2040 z_1663 o_2039
                    refine lv_iinc (v := 9) (lv' := [(1, .int 9), (0, .ref x)]) hx hb dX0_init_56 hl (k := 0) rfl (by decide) (by decide) rfl (fun ls hl => ?_)
                    refine lv_goto (tgt := 37) hx hb dX0_init_59 (by decide) ?_
                    refine lv_iload_n hx hb dX0_init_37 rfl (lv_at hl 0 rfl) ?_
                    refine lv_bipush (v := 12) hx hb dX0_init_38 (by decide) ?_
                    refine lv_icmp_ge (tgt := 62) hx hb dX0_init_40 (by decide) (fun c_2050 => ?_) (fun c_2050 => ?_)
                    · exact absurd c_2050 (by decide)
                    · refine lv_aload_n hx hb dX0_init_43 rfl (lv_at hl 1 rfl) ?_
                      refine q_get C h k_2045 fl_X0_21 (v := .ref q_1649) rfl dX0_init_44 ?_
                      refine lv_iload_n hx hb dX0_init_47 rfl (lv_at hl 0 rfl) ?_
                      refine q_new C h nw_X0_9 (Nat.le_of_ble_eq_true rfl) (Nat.le_of_ble_eq_true rfl) dX0_init_48 (fun q_2051 H nq_2051 h => ?_)
                      generalize ef_2052 : hu f_2040 q_2051 (.inr (6, [.null, .int 0])) = f_2052 at h
                      have d_2054 : q_1599 ≠ q_2051 := (hne0 nq_2051 k_2041)
                      have k_2053 : f_2052 q_1599 = some (.inr (6, [.ref a_1609, .int 0])) := by rw [← ef_2052]; exact hu_at k_2041 d_2054
                      have d_2056 : a_1609 ≠ q_2051 := (hne0 nq_2051 k_2042)
                      have k_2055 : f_2052 a_1609 = some (.inl (G 4, 8, .inr (.inr (.inr (.inr (fun _ => none)))))) := by rw [← ef_2052]; exact hu_at k_2042 d_2056
                      have d_2058 : q_1620 ≠ q_2051 := (hne0 nq_2051 k_2043)
                      have k_2057 : f_2052 q_1620 = some (.inr (6, [.ref a_1634, .int 0])) := by rw [← ef_2052]; exact hu_at k_2043 d_2058
                      have d_2060 : a_1634 ≠ q_2051 := (hne0 nq_2051 k_2044)
                      have k_2059 : f_2052 a_1634 = some (.inl (G 4, 8, .inr (.inr (.inr (.inr (fun _ => none)))))) := by rw [← ef_2052]; exact hu_at k_2044 d_2060
                      have d_2062 : x ≠ q_2051 := (hne0 nq_2051 k_2045)
                      have k_2061 : f_2052 x = some (.inr (1, [.int 0, .ref q_1599, .ref q_1620, .ref q_1649, .int 0, .int 0])) := by rw [← ef_2052]; exact hu_at k_2045 d_2062
                      have d_2064 : q_1649 ≠ q_2051 := (hne0 nq_2051 k_2048)
                      have k_2063 : f_2052 q_1649 = some (.inl (G 3, 12, .inr (.inr (.inr (.inr (va_up (va_up (va_up (va_up (va_up (va_up (va_up (va_up (va_up (fun _ => none) (Int32.toNatClampNeg 0) (some q_1673)) (Int32.toNatClampNeg 1) (some q_1715)) (Int32.toNatClampNeg 2) (some q_1757)) (Int32.toNatClampNeg 3) (some q_1799)) (Int32.toNatClampNeg 4) (some q_1841)) (Int32.toNatClampNeg 5) (some q_1883)) (Int32.toNatClampNeg 6) (some q_1925)) (Int32.toNatClampNeg 7) (some q_1967)) (Int32.toNatClampNeg 8) (some q_2009))))))) := by rw [← ef_2052]; exact hu_at k_2048 d_2064
                      have k_2065 : f_2052 q_2051 = some (.inr (6, [.null, .int 0])) := by rw [← ef_2052]; exact hu_self _ _ _
                      have z_2067 : f q_2051 = none := ol_none o_2049 nq_2051 k_2045
                      have o_2066 := ol_upn ef_2052 z_2067 o_2049
                      refine lv_dup hx hb dX0_init_51 rfl ?_
                      refine k_v (r_I C h hl (As := []) (rest := [.ref q_2051, .int 9, .ref q_1649]) (c_X5_init l D G b0 f_2052 q_2051 k_2065) mk_X5_init rfl w_170 w_171 w_172 ⟨Nat.le_of_ble_eq_true rfl, Nat.le_of_ble_eq_true rfl⟩ rfl (Nat.le_of_ble_eq_true rfl) ⟨Nat.le_of_ble_eq_true rfl, Nat.le_of_ble_eq_true rfl⟩ rfl dX0_init_52) h (fun f_2069 H locs p_2070 h => ?_)
                      obtain ⟨a_2071, k_2072, k_2073, u_2074⟩ := p_2070
                      have k_2075 : f_2069 q_1599 = some (.inr (6, [.ref a_1609, .int 0])) := ol_at u_2074 k_2053 d_2054
                      have k_2076 : f_2069 a_1609 = some (.inl (G 4, 8, .inr (.inr (.inr (.inr (fun _ => none)))))) := ol_at u_2074 k_2055 d_2056
                      have k_2077 : f_2069 q_1620 = some (.inr (6, [.ref a_1634, .int 0])) := ol_at u_2074 k_2057 d_2058
                      have k_2078 : f_2069 a_1634 = some (.inl (G 4, 8, .inr (.inr (.inr (.inr (fun _ => none)))))) := ol_at u_2074 k_2059 d_2060
                      have k_2079 : f_2069 x = some (.inr (1, [.int 0, .ref q_1599, .ref q_1620, .ref q_1649, .int 0, .int 0])) := ol_at u_2074 k_2061 d_2062
                      have k_2080 : f_2069 q_1649 = some (.inl (G 3, 12, .inr (.inr (.inr (.inr (va_up (va_up (va_up (va_up (va_up (va_up (va_up (va_up (va_up (fun _ => none) (Int32.toNatClampNeg 0) (some q_1673)) (Int32.toNatClampNeg 1) (some q_1715)) (Int32.toNatClampNeg 2) (some q_1757)) (Int32.toNatClampNeg 3) (some q_1799)) (Int32.toNatClampNeg 4) (some q_1841)) (Int32.toNatClampNeg 5) (some q_1883)) (Int32.toNatClampNeg 6) (some q_1925)) (Int32.toNatClampNeg 7) (some q_1967)) (Int32.toNatClampNeg 8) (some q_2009))))))) := ol_at u_2074 k_2063 d_2064
                      have o_2081 := ol_rel u_2074 z_2067 o_2066
                      refine q_aast C h 3 6 (rr := (RX5, TX5, 2)) rfl rfl k_2080 k_2072 (by unfold vp_in; decide) dX0_init_55 (fun H locs h => ?_)
                      generalize ef_2082 : hu f_2069 q_1649 (.inl (G 3, 12, .inr (.inr (.inr (.inr (va_up (va_up (va_up (va_up (va_up (va_up (va_up (va_up (va_up (va_up (fun _ => none) (Int32.toNatClampNeg 0) (some q_1673)) (Int32.toNatClampNeg 1) (some q_1715)) (Int32.toNatClampNeg 2) (some q_1757)) (Int32.toNatClampNeg 3) (some q_1799)) (Int32.toNatClampNeg 4) (some q_1841)) (Int32.toNatClampNeg 5) (some q_1883)) (Int32.toNatClampNeg 6) (some q_1925)) (Int32.toNatClampNeg 7) (some q_1967)) (Int32.toNatClampNeg 8) (some q_2009)) (Int32.toNatClampNeg 9) (some q_2051))))))) = f_2082 at h
                      have k_2083 : f_2082 q_1599 = some (.inr (6, [.ref a_1609, .int 0])) := by rw [← ef_2082]; exact hu_at k_2075 d_1652
                      have k_2084 : f_2082 a_1609 = some (.inl (G 4, 8, .inr (.inr (.inr (.inr (fun _ => none)))))) := by rw [← ef_2082]; exact hu_at k_2076 d_1654
                      have k_2085 : f_2082 q_1620 = some (.inr (6, [.ref a_1634, .int 0])) := by rw [← ef_2082]; exact hu_at k_2077 d_1656
                      have k_2086 : f_2082 a_1634 = some (.inl (G 4, 8, .inr (.inr (.inr (.inr (fun _ => none)))))) := by rw [← ef_2082]; exact hu_at k_2078 d_1658
                      have k_2087 : f_2082 x = some (.inr (1, [.int 0, .ref q_1599, .ref q_1620, .ref q_1649, .int 0, .int 0])) := by rw [← ef_2082]; exact hu_at k_2079 d_1660
                      have k_2088 : f_2082 q_2051 = some (.inr (6, [.ref a_2071, .int 0])) := by rw [← ef_2082]; exact hu_at k_2072 (Ne.symm d_2064)
                      have k_2089 : f_2082 a_2071 = some (.inl (G 4, 8, .inr (.inr (.inr (.inr (fun _ => none)))))) := by rw [← ef_2082]; exact hu_at k_2073 (hne (3, 12) (3, 8) k_2080 k_2073 rfl rfl (by decide))
                      have k_2090 : f_2082 q_1649 = some (.inl (G 3, 12, .inr (.inr (.inr (.inr (va_up (va_up (va_up (va_up (va_up (va_up (va_up (va_up (va_up (va_up (fun _ => none) (Int32.toNatClampNeg 0) (some q_1673)) (Int32.toNatClampNeg 1) (some q_1715)) (Int32.toNatClampNeg 2) (some q_1757)) (Int32.toNatClampNeg 3) (some q_1799)) (Int32.toNatClampNeg 4) (some q_1841)) (Int32.toNatClampNeg 5) (some q_1883)) (Int32.toNatClampNeg 6) (some q_1925)) (Int32.toNatClampNeg 7) (some q_1967)) (Int32.toNatClampNeg 8) (some q_2009)) (Int32.toNatClampNeg 9) (some q_2051))))))) := by rw [← ef_2082]; exact hu_self _ _ _
                      have o_2091 := ol_upn ef_2082 z_1663 o_2081
                      refine lv_iinc (v := 10) (lv' := [(1, .int 10), (0, .ref x)]) hx hb dX0_init_56 hl (k := 0) rfl (by decide) (by decide) rfl (fun ls hl => ?_)
                      refine lv_goto (tgt := 37) hx hb dX0_init_59 (by decide) ?_
                      refine lv_iload_n hx hb dX0_init_37 rfl (lv_at hl 0 rfl) ?_
                      refine lv_bipush (v := 12) hx hb dX0_init_38 (by decide) ?_
                      refine lv_icmp_ge (tgt := 62) hx hb dX0_init_40 (by decide) (fun c_2092 => ?_) (fun c_2092 => ?_)
                      · exact absurd c_2092 (by decide)
                      · refine lv_aload_n hx hb dX0_init_43 rfl (lv_at hl 1 rfl) ?_
                        refine q_get C h k_2087 fl_X0_21 (v := .ref q_1649) rfl dX0_init_44 ?_
                        refine lv_iload_n hx hb dX0_init_47 rfl (lv_at hl 0 rfl) ?_
                        refine q_new C h nw_X0_9 (Nat.le_of_ble_eq_true rfl) (Nat.le_of_ble_eq_true rfl) dX0_init_48 (fun q_2093 H nq_2093 h => ?_)
                        generalize ef_2094 : hu f_2082 q_2093 (.inr (6, [.null, .int 0])) = f_2094 at h
                        have d_2096 : q_1599 ≠ q_2093 := (hne0 nq_2093 k_2083)
                        have k_2095 : f_2094 q_1599 = some (.inr (6, [.ref a_1609, .int 0])) := by rw [← ef_2094]; exact hu_at k_2083 d_2096
                        have d_2098 : a_1609 ≠ q_2093 := (hne0 nq_2093 k_2084)
                        have k_2097 : f_2094 a_1609 = some (.inl (G 4, 8, .inr (.inr (.inr (.inr (fun _ => none)))))) := by rw [← ef_2094]; exact hu_at k_2084 d_2098
                        have d_2100 : q_1620 ≠ q_2093 := (hne0 nq_2093 k_2085)
                        have k_2099 : f_2094 q_1620 = some (.inr (6, [.ref a_1634, .int 0])) := by rw [← ef_2094]; exact hu_at k_2085 d_2100
                        have d_2102 : a_1634 ≠ q_2093 := (hne0 nq_2093 k_2086)
                        have k_2101 : f_2094 a_1634 = some (.inl (G 4, 8, .inr (.inr (.inr (.inr (fun _ => none)))))) := by rw [← ef_2094]; exact hu_at k_2086 d_2102
                        have d_2104 : x ≠ q_2093 := (hne0 nq_2093 k_2087)
                        have k_2103 : f_2094 x = some (.inr (1, [.int 0, .ref q_1599, .ref q_1620, .ref q_1649, .int 0, .int 0])) := by rw [← ef_2094]; exact hu_at k_2087 d_2104
                        have d_2106 : q_1649 ≠ q_2093 := (hne0 nq_2093 k_2090)
                        have k_2105 : f_2094 q_1649 = some (.inl (G 3, 12, .inr (.inr (.inr (.inr (va_up (va_up (va_up (va_up (va_up (va_up (va_up (va_up (va_up (va_up (fun _ => none) (Int32.toNatClampNeg 0) (some q_1673)) (Int32.toNatClampNeg 1) (some q_1715)) (Int32.toNatClampNeg 2) (some q_1757)) (Int32.toNatClampNeg 3) (some q_1799)) (Int32.toNatClampNeg 4) (some q_1841)) (Int32.toNatClampNeg 5) (some q_1883)) (Int32.toNatClampNeg 6) (some q_1925)) (Int32.toNatClampNeg 7) (some q_1967)) (Int32.toNatClampNeg 8) (some q_2009)) (Int32.toNatClampNeg 9) (some q_2051))))))) := by rw [← ef_2094]; exact hu_at k_2090 d_2106
                        have k_2107 : f_2094 q_2093 = some (.inr (6, [.null, .int 0])) := by rw [← ef_2094]; exact hu_self _ _ _
                        have z_2109 : f q_2093 = none := ol_none o_2091 nq_2093 k_2087
                        have o_2108 := ol_upn ef_2094 z_2109 o_2091
                        refine lv_dup hx hb dX0_init_51 rfl ?_
                        refine k_v (r_I C h hl (As := []) (rest := [.ref q_2093, .int 10, .ref q_1649]) (c_X5_init l D G b0 f_2094 q_2093 k_2107) mk_X5_init rfl w_170 w_171 w_172 ⟨Nat.le_of_ble_eq_true rfl, Nat.le_of_ble_eq_true rfl⟩ rfl (Nat.le_of_ble_eq_true rfl) ⟨Nat.le_of_ble_eq_true rfl, Nat.le_of_ble_eq_true rfl⟩ rfl dX0_init_52) h (fun f_2111 H locs p_2112 h => ?_)
                        obtain ⟨a_2113, k_2114, k_2115, u_2116⟩ := p_2112
                        have k_2117 : f_2111 q_1599 = some (.inr (6, [.ref a_1609, .int 0])) := ol_at u_2116 k_2095 d_2096
                        have k_2118 : f_2111 a_1609 = some (.inl (G 4, 8, .inr (.inr (.inr (.inr (fun _ => none)))))) := ol_at u_2116 k_2097 d_2098
                        have k_2119 : f_2111 q_1620 = some (.inr (6, [.ref a_1634, .int 0])) := ol_at u_2116 k_2099 d_2100
                        have k_2120 : f_2111 a_1634 = some (.inl (G 4, 8, .inr (.inr (.inr (.inr (fun _ => none)))))) := ol_at u_2116 k_2101 d_2102
                        have k_2121 : f_2111 x = some (.inr (1, [.int 0, .ref q_1599, .ref q_1620, .ref q_1649, .int 0, .int 0])) := ol_at u_2116 k_2103 d_2104
                        have k_2122 : f_2111 q_1649 = some (.inl (G 3, 12, .inr (.inr (.inr (.inr (va_up (va_up (va_up (va_up (va_up (va_up (va_up (va_up (va_up (va_up (fun _ => none) (Int32.toNatClampNeg 0) (some q_1673)) (Int32.toNatClampNeg 1) (some q_1715)) (Int32.toNatClampNeg 2) (some q_1757)) (Int32.toNatClampNeg 3) (some q_1799)) (Int32.toNatClampNeg 4) (some q_1841)) (Int32.toNatClampNeg 5) (some q_1883)) (Int32.toNatClampNeg 6) (some q_1925)) (Int32.toNatClampNeg 7) (some q_1967)) (Int32.toNatClampNeg 8) (some q_2009)) (Int32.toNatClampNeg 9) (some q_2051))))))) := ol_at u_2116 k_2105 d_2106
                        have o_2123 := ol_rel u_2116 z_2109 o_2108
                        refine q_aast C h 3 6 (rr := (RX5, TX5, 2)) rfl rfl k_2122 k_2114 (by unfold vp_in; decide) dX0_init_55 (fun H locs h => ?_)
                        generalize ef_2124 : hu f_2111 q_1649 (.inl (G 3, 12, .inr (.inr (.inr (.inr (va_up (va_up (va_up (va_up (va_up (va_up (va_up (va_up (va_up (va_up (va_up (fun _ => none) (Int32.toNatClampNeg 0) (some q_1673)) (Int32.toNatClampNeg 1) (some q_1715)) (Int32.toNatClampNeg 2) (some q_1757)) (Int32.toNatClampNeg 3) (some q_1799)) (Int32.toNatClampNeg 4) (some q_1841)) (Int32.toNatClampNeg 5) (some q_1883)) (Int32.toNatClampNeg 6) (some q_1925)) (Int32.toNatClampNeg 7) (some q_1967)) (Int32.toNatClampNeg 8) (some q_2009)) (Int32.toNatClampNeg 9) (some q_2051)) (Int32.toNatClampNeg 10) (some q_2093))))))) = f_2124 at h
                        have k_2125 : f_2124 q_1599 = some (.inr (6, [.ref a_1609, .int 0])) := by rw [← ef_2124]; exact hu_at k_2117 d_1652
                        have k_2126 : f_2124 a_1609 = some (.inl (G 4, 8, .inr (.inr (.inr (.inr (fun _ => none)))))) := by rw [← ef_2124]; exact hu_at k_2118 d_1654
                        have k_2127 : f_2124 q_1620 = some (.inr (6, [.ref a_1634, .int 0])) := by rw [← ef_2124]; exact hu_at k_2119 d_1656
                        have k_2128 : f_2124 a_1634 = some (.inl (G 4, 8, .inr (.inr (.inr (.inr (fun _ => none)))))) := by rw [← ef_2124]; exact hu_at k_2120 d_1658
                        have k_2129 : f_2124 x = some (.inr (1, [.int 0, .ref q_1599, .ref q_1620, .ref q_1649, .int 0, .int 0])) := by rw [← ef_2124]; exact hu_at k_2121 d_1660
                        have k_2130 : f_2124 q_2093 = some (.inr (6, [.ref a_2113, .int 0])) := by rw [← ef_2124]; exact hu_at k_2114 (Ne.symm d_2106)
                        have k_2131 : f_2124 a_2113 = some (.inl (G 4, 8, .inr (.inr (.inr (.inr (fun _ => none)))))) := by rw [← ef_2124]; exact hu_at k_2115 (hne (3, 12) (3, 8) k_2122 k_2115 rfl rfl (by decide))
                        have k_2132 : f_2124 q_1649 = some (.inl (G 3, 12, .inr (.inr (.inr (.inr (va_up (va_up (va_up (va_up (va_up (va_up (va_up (va_up (va_up (va_up (va_up (fun _ => none) (Int32.toNatClampNeg 0) (some q_1673)) (Int32.toNatClampNeg 1) (some q_1715)) (Int32.toNatClampNeg 2) (some q_1757)) (Int32.toNatClampNeg 3) (some q_1799)) (Int32.toNatClampNeg 4) (some q_1841)) (Int32.toNatClampNeg 5) (some q_1883)) (Int32.toNatClampNeg 6) (some q_1925)) (Int32.toNatClampNeg 7) (some q_1967)) (Int32.toNatClampNeg 8) (some q_2009)) (Int32.toNatClampNeg 9) (some q_2051)) (Int32.toNatClampNeg 10) (some q_2093))))))) := by rw [← ef_2124]; exact hu_self _ _ _
                        have o_2133 := ol_upn ef_2124 z_1663 o_2123
                        refine lv_iinc (v := 11) (lv' := [(1, .int 11), (0, .ref x)]) hx hb dX0_init_56 hl (k := 0) rfl (by decide) (by decide) rfl (fun ls hl => ?_)
                        refine lv_goto (tgt := 37) hx hb dX0_init_59 (by decide) ?_
                        refine lv_iload_n hx hb dX0_init_37 rfl (lv_at hl 0 rfl) ?_
                        refine lv_bipush (v := 12) hx hb dX0_init_38 (by decide) ?_
                        refine lv_icmp_ge (tgt := 62) hx hb dX0_init_40 (by decide) (fun c_2134 => ?_) (fun c_2134 => ?_)
                        · exact absurd c_2134 (by decide)
                        · refine lv_aload_n hx hb dX0_init_43 rfl (lv_at hl 1 rfl) ?_
                          refine q_get C h k_2129 fl_X0_21 (v := .ref q_1649) rfl dX0_init_44 ?_
                          refine lv_iload_n hx hb dX0_init_47 rfl (lv_at hl 0 rfl) ?_
                          refine q_new C h nw_X0_9 (Nat.le_of_ble_eq_true rfl) (Nat.le_of_ble_eq_true rfl) dX0_init_48 (fun q_2135 H nq_2135 h => ?_)
                          generalize ef_2136 : hu f_2124 q_2135 (.inr (6, [.null, .int 0])) = f_2136 at h
                          have d_2138 : q_1599 ≠ q_2135 := (hne0 nq_2135 k_2125)
                          have k_2137 : f_2136 q_1599 = some (.inr (6, [.ref a_1609, .int 0])) := by rw [← ef_2136]; exact hu_at k_2125 d_2138
                          have d_2140 : a_1609 ≠ q_2135 := (hne0 nq_2135 k_2126)
                          have k_2139 : f_2136 a_1609 = some (.inl (G 4, 8, .inr (.inr (.inr (.inr (fun _ => none)))))) := by rw [← ef_2136]; exact hu_at k_2126 d_2140
                          have d_2142 : q_1620 ≠ q_2135 := (hne0 nq_2135 k_2127)
                          have k_2141 : f_2136 q_1620 = some (.inr (6, [.ref a_1634, .int 0])) := by rw [← ef_2136]; exact hu_at k_2127 d_2142
                          have d_2144 : a_1634 ≠ q_2135 := (hne0 nq_2135 k_2128)
                          have k_2143 : f_2136 a_1634 = some (.inl (G 4, 8, .inr (.inr (.inr (.inr (fun _ => none)))))) := by rw [← ef_2136]; exact hu_at k_2128 d_2144
                          have d_2146 : x ≠ q_2135 := (hne0 nq_2135 k_2129)
                          have k_2145 : f_2136 x = some (.inr (1, [.int 0, .ref q_1599, .ref q_1620, .ref q_1649, .int 0, .int 0])) := by rw [← ef_2136]; exact hu_at k_2129 d_2146
                          have d_2148 : q_1649 ≠ q_2135 := (hne0 nq_2135 k_2132)
                          have k_2147 : f_2136 q_1649 = some (.inl (G 3, 12, .inr (.inr (.inr (.inr (va_up (va_up (va_up (va_up (va_up (va_up (va_up (va_up (va_up (va_up (va_up (fun _ => none) (Int32.toNatClampNeg 0) (some q_1673)) (Int32.toNatClampNeg 1) (some q_1715)) (Int32.toNatClampNeg 2) (some q_1757)) (Int32.toNatClampNeg 3) (some q_1799)) (Int32.toNatClampNeg 4) (some q_1841)) (Int32.toNatClampNeg 5) (some q_1883)) (Int32.toNatClampNeg 6) (some q_1925)) (Int32.toNatClampNeg 7) (some q_1967)) (Int32.toNatClampNeg 8) (some q_2009)) (Int32.toNatClampNeg 9) (some q_2051)) (Int32.toNatClampNeg 10) (some q_2093))))))) := by rw [← ef_2136]; exact hu_at k_2132 d_2148
                          have k_2149 : f_2136 q_2135 = some (.inr (6, [.null, .int 0])) := by rw [← ef_2136]; exact hu_self _ _ _
                          have z_2151 : f q_2135 = none := ol_none o_2133 nq_2135 k_2129
                          have o_2150 := ol_upn ef_2136 z_2151 o_2133
                          refine lv_dup hx hb dX0_init_51 rfl ?_
                          refine k_v (r_I C h hl (As := []) (rest := [.ref q_2135, .int 11, .ref q_1649]) (c_X5_init l D G b0 f_2136 q_2135 k_2149) mk_X5_init rfl w_170 w_171 w_172 ⟨Nat.le_of_ble_eq_true rfl, Nat.le_of_ble_eq_true rfl⟩ rfl (Nat.le_of_ble_eq_true rfl) ⟨Nat.le_of_ble_eq_true rfl, Nat.le_of_ble_eq_true rfl⟩ rfl dX0_init_52) h (fun f_2153 H locs p_2154 h => ?_)
                          obtain ⟨a_2155, k_2156, k_2157, u_2158⟩ := p_2154
                          have k_2159 : f_2153 q_1599 = some (.inr (6, [.ref a_1609, .int 0])) := ol_at u_2158 k_2137 d_2138
                          have k_2160 : f_2153 a_1609 = some (.inl (G 4, 8, .inr (.inr (.inr (.inr (fun _ => none)))))) := ol_at u_2158 k_2139 d_2140
                          have k_2161 : f_2153 q_1620 = some (.inr (6, [.ref a_1634, .int 0])) := ol_at u_2158 k_2141 d_2142
                          have k_2162 : f_2153 a_1634 = some (.inl (G 4, 8, .inr (.inr (.inr (.inr (fun _ => none)))))) := ol_at u_2158 k_2143 d_2144
                          have k_2163 : f_2153 x = some (.inr (1, [.int 0, .ref q_1599, .ref q_1620, .ref q_1649, .int 0, .int 0])) := ol_at u_2158 k_2145 d_2146
                          have k_2164 : f_2153 q_1649 = some (.inl (G 3, 12, .inr (.inr (.inr (.inr (va_up (va_up (va_up (va_up (va_up (va_up (va_up (va_up (va_up (va_up (va_up (fun _ => none) (Int32.toNatClampNeg 0) (some q_1673)) (Int32.toNatClampNeg 1) (some q_1715)) (Int32.toNatClampNeg 2) (some q_1757)) (Int32.toNatClampNeg 3) (some q_1799)) (Int32.toNatClampNeg 4) (some q_1841)) (Int32.toNatClampNeg 5) (some q_1883)) (Int32.toNatClampNeg 6) (some q_1925)) (Int32.toNatClampNeg 7) (some q_1967)) (Int32.toNatClampNeg 8) (some q_2009)) (Int32.toNatClampNeg 9) (some q_2051)) (Int32.toNatClampNeg 10) (some q_2093))))))) := ol_at u_2158 k_2147 d_2148
                          have o_2165 := ol_rel u_2158 z_2151 o_2150
                          refine q_aast C h 3 6 (rr := (RX5, TX5, 2)) rfl rfl k_2164 k_2156 (by unfold vp_in; decide) dX0_init_55 (fun H locs h => ?_)
                          generalize ef_2166 : hu f_2153 q_1649 (.inl (G 3, 12, .inr (.inr (.inr (.inr (va_up (va_up (va_up (va_up (va_up (va_up (va_up (va_up (va_up (va_up (va_up (va_up (fun _ => none) (Int32.toNatClampNeg 0) (some q_1673)) (Int32.toNatClampNeg 1) (some q_1715)) (Int32.toNatClampNeg 2) (some q_1757)) (Int32.toNatClampNeg 3) (some q_1799)) (Int32.toNatClampNeg 4) (some q_1841)) (Int32.toNatClampNeg 5) (some q_1883)) (Int32.toNatClampNeg 6) (some q_1925)) (Int32.toNatClampNeg 7) (some q_1967)) (Int32.toNatClampNeg 8) (some q_2009)) (Int32.toNatClampNeg 9) (some q_2051)) (Int32.toNatClampNeg 10) (some q_2093)) (Int32.toNatClampNeg 11) (some q_2135))))))) = f_2166 at h
                          have k_2167 : f_2166 q_1599 = some (.inr (6, [.ref a_1609, .int 0])) := by rw [← ef_2166]; exact hu_at k_2159 d_1652
                          have k_2168 : f_2166 a_1609 = some (.inl (G 4, 8, .inr (.inr (.inr (.inr (fun _ => none)))))) := by rw [← ef_2166]; exact hu_at k_2160 d_1654
                          have k_2169 : f_2166 q_1620 = some (.inr (6, [.ref a_1634, .int 0])) := by rw [← ef_2166]; exact hu_at k_2161 d_1656
                          have k_2170 : f_2166 a_1634 = some (.inl (G 4, 8, .inr (.inr (.inr (.inr (fun _ => none)))))) := by rw [← ef_2166]; exact hu_at k_2162 d_1658
                          have k_2171 : f_2166 x = some (.inr (1, [.int 0, .ref q_1599, .ref q_1620, .ref q_1649, .int 0, .int 0])) := by rw [← ef_2166]; exact hu_at k_2163 d_1660
                          have k_2172 : f_2166 q_2135 = some (.inr (6, [.ref a_2155, .int 0])) := by rw [← ef_2166]; exact hu_at k_2156 (Ne.symm d_2148)
                          have k_2173 : f_2166 a_2155 = some (.inl (G 4, 8, .inr (.inr (.inr (.inr (fun _ => none)))))) := by rw [← ef_2166]; exact hu_at k_2157 (hne (3, 12) (3, 8) k_2164 k_2157 rfl rfl (by decide))
                          have k_2174 : f_2166 q_1649 = some (.inl (G 3, 12, .inr (.inr (.inr (.inr (va_up (va_up (va_up (va_up (va_up (va_up (va_up (va_up (va_up (va_up (va_up (va_up (fun _ => none) (Int32.toNatClampNeg 0) (some q_1673)) (Int32.toNatClampNeg 1) (some q_1715)) (Int32.toNatClampNeg 2) (some q_1757)) (Int32.toNatClampNeg 3) (some q_1799)) (Int32.toNatClampNeg 4) (some q_1841)) (Int32.toNatClampNeg 5) (some q_1883)) (Int32.toNatClampNeg 6) (some q_1925)) (Int32.toNatClampNeg 7) (some q_1967)) (Int32.toNatClampNeg 8) (some q_2009)) (Int32.toNatClampNeg 9) (some q_2051)) (Int32.toNatClampNeg 10) (some q_2093)) (Int32.toNatClampNeg 11) (some q_2135))))))) := by rw [← ef_2166]; exact hu_self _ _ _
                          have o_2175 := ol_upn ef_2166 z_1663 o_2165
                          refine lv_iinc (v := 12) (lv' := [(1, .int 12), (0, .ref x)]) hx hb dX0_init_56 hl (k := 0) rfl (by decide) (by decide) rfl (fun ls hl => ?_)
                          refine lv_goto (tgt := 37) hx hb dX0_init_59 (by decide) ?_
                          refine lv_iload_n hx hb dX0_init_37 rfl (lv_at hl 0 rfl) ?_
                          refine lv_bipush (v := 12) hx hb dX0_init_38 (by decide) ?_
                          refine lv_icmp_ge (tgt := 62) hx hb dX0_init_40 (by decide) (fun c_2176 => ?_) (fun c_2176 => ?_)
                          · exact q_vret C h hr (⟨q_1599, q_1620, q_1649, a_1609, a_1634, k_2171, k_2167, k_2169, k_2168, k_2170, o_2175⟩) (Nat.le_of_ble_eq_true rfl) (Nat.le_of_ble_eq_true rfl) dX0_init_62
                          · exact absurd c_2176 (by decide)
