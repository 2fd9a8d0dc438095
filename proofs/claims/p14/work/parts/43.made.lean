theorem dX7_init_0 : decode cX7_init 0 = .ok (.aload_n 0, 1) := by decide +kernel
theorem dX7_init_1 : decode cX7_init 1 = .ok (.invokespecial 3, 3) := by decide +kernel
theorem w_137 : Cond.methodLink "QuarterWalks$Tape" 3 objectInit ∈ wAll := wI1 42 (by decide +kernel) (by decide +kernel)
theorem dX7_init_4 : decode cX7_init 4 = .ok (.aload_n 0, 1) := by decide +kernel
theorem dX7_init_5 : decode cX7_init 5 = .ok (.sipush 200, 3) := by decide +kernel
theorem dX7_init_8 : decode cX7_init 8 = .ok (.newarray .int, 2) := by decide +kernel
theorem flw_X7_11 : flw RX7 11 8 1 (.array (.int)) := ⟨RX7, TX7, 7, tyX7, rfl, inA_X7, by decide, w_140, tyX7_ok, nmX7, by decide +kernel, Or.inr ⟨rfl, rfl⟩⟩
theorem dX7_init_10 : decode cX7_init 10 = .ok (.putfield 11, 3) := by decide +kernel
theorem dX7_init_13 : decode cX7_init 13 = .ok (.aload_n 0, 1) := by decide +kernel
theorem dX7_init_14 : decode cX7_init 14 = .ok (.bipush 8, 2) := by decide +kernel
theorem dX7_init_16 : decode cX7_init 16 = .ok (.newarray .int, 2) := by decide +kernel
theorem flw_X7_15 : flw RX7 15 8 2 (.array (.int)) := ⟨RX7, TX7, 7, tyX7, rfl, inA_X7, by decide, w_141, tyX7_ok, nmX7, by decide +kernel, Or.inr ⟨rfl, rfl⟩⟩
theorem dX7_init_18 : decode cX7_init 18 = .ok (.putfield 15, 3) := by decide +kernel
theorem dX7_init_21 : decode cX7_init 21 = .ok (.return_, 1) := by decide +kernel
theorem dX5_init_0 : decode cX5_init 0 = .ok (.aload_n 0, 1) := by decide +kernel
theorem dX5_init_1 : decode cX5_init 1 = .ok (.invokespecial 1, 3) := by decide +kernel
theorem w_173 : Cond.methodLink "QuarterWalks$Shelf" 1 objectInit ∈ wAll := wI1 78 (by decide +kernel) (by decide +kernel)
theorem dX5_init_4 : decode cX5_init 4 = .ok (.aload_n 0, 1) := by decide +kernel
theorem dX5_init_5 : decode cX5_init 5 = .ok (.bipush 8, 2) := by decide +kernel
theorem dX5_init_7 : decode cX5_init 7 = .ok (.anewarray 9, 3) := by decide +kernel
theorem w_174 : Cond.classLink "QuarterWalks$Shelf" 9 "QuarterWalks$StepSet" ∈ wAll := wI1 79 (by decide +kernel) (by decide +kernel)
theorem dX5_init_10 : decode cX5_init 10 = .ok (.putfield 11, 3) := by decide +kernel
theorem flw_X5_11 : flw RX5 11 6 0 (.array (.object "QuarterWalks$StepSet")) := ⟨RX5, TX5, 2, tyX5, rfl, inA_X5, by decide, w_176, tyX5_ok, nmX5, by decide +kernel, Or.inr ⟨rfl, rfl⟩⟩
theorem dX5_init_13 : decode cX5_init 13 = .ok (.return_, 1) := by decide +kernel
theorem dX1_init_0 : decode cX1_init 0 = .ok (.aload_n 0, 1) := by decide +kernel
theorem dX1_init_1 : decode cX1_init 1 = .ok (.invokespecial 1, 3) := by decide +kernel
theorem w_217 : Cond.methodLink "QuarterWalks$Box" 1 objectInit ∈ wAll := wI1 122 (by decide +kernel) (by decide +kernel)
theorem dX1_init_4 : decode cX1_init 4 = .ok (.return_, 1) := by decide +kernel
theorem dX8_init_0 : decode cX8_init 0 = .ok (.aload_n 0, 1) := by decide +kernel
theorem dX8_init_1 : decode cX8_init 1 = .ok (.invokespecial 3, 3) := by decide +kernel
theorem w_296 : Cond.methodLink "QuarterWalks$Turns" 3 objectInit ∈ wAll := wI1 201 (by decide +kernel) (by decide +kernel)
theorem dX8_init_4 : decode cX8_init 4 = .ok (.aload_n 0, 1) := by decide +kernel
theorem dX8_init_5 : decode cX8_init 5 = .ok (.bipush 40, 2) := by decide +kernel
theorem dX8_init_7 : decode cX8_init 7 = .ok (.newarray .int, 2) := by decide +kernel
theorem flw_X8_11 : flw RX8 11 9 0 (.array (.int)) := ⟨RX8, TX8, 2, tyX8, rfl, inA_X8, by decide, w_297, tyX8_ok, nmX8, by decide +kernel, Or.inr ⟨rfl, rfl⟩⟩
theorem dX8_init_9 : decode cX8_init 9 = .ok (.putfield 11, 3) := by decide +kernel
theorem dX8_init_12 : decode cX8_init 12 = .ok (.aload_n 0, 1) := by decide +kernel
theorem dX8_init_13 : decode cX8_init 13 = .ok (.bipush 40, 2) := by decide +kernel
theorem dX8_init_15 : decode cX8_init 15 = .ok (.newarray .int, 2) := by decide +kernel
theorem flw_X8_15 : flw RX8 15 9 1 (.array (.int)) := ⟨RX8, TX8, 2, tyX8, rfl, inA_X8, by decide, w_299, tyX8_ok, nmX8, by decide +kernel, Or.inr ⟨rfl, rfl⟩⟩
theorem dX8_init_17 : decode cX8_init 17 = .ok (.putfield 15, 3) := by decide +kernel
theorem dX8_init_20 : decode cX8_init 20 = .ok (.return_, 1) := by decide +kernel
theorem dX9_init_0 : decode cX9_init 0 = .ok (.aload_n 0, 1) := by decide +kernel
theorem dX9_init_1 : decode cX9_init 1 = .ok (.invokespecial 5, 3) := by decide +kernel
theorem w_275 : Cond.methodLink "QuarterWalks$Ways" 5 objectInit ∈ wAll := wI1 180 (by decide +kernel) (by decide +kernel)
theorem dX9_init_4 : decode cX9_init 4 = .ok (.aload_n 0, 1) := by decide +kernel
theorem dX9_init_5 : decode cX9_init 5 = .ok (.bipush 11, 2) := by decide +kernel
theorem dX9_init_7 : decode cX9_init 7 = .ok (.sipush 441, 3) := by decide +kernel
theorem dX9_init_10 : decode cX9_init 10 = .ok (.multianewarray 11 2, 4) := by decide +kernel
theorem flw_X9_13 : flw RX9 13 10 0 (.array (.array (.int))) := ⟨RX9, TX9, 4, tyX9, rfl, inA_X9, by decide, w_278, tyX9_ok, nmX9, by decide +kernel, Or.inr ⟨rfl, rfl⟩⟩
theorem w_276 : Cond.classLink RX9 11 ("[" ++ (FieldType.array .int).toString) ∈ wAll := wI1 181 (by decide +kernel) (by decide +kernel)
theorem dX9_init_14 : decode cX9_init 14 = .ok (.putfield 13, 3) := by decide +kernel
theorem dX9_init_17 : decode cX9_init 17 = .ok (.return_, 1) := by decide +kernel
theorem dX4_init_0 : decode cX4_init 0 = .ok (.aload_n 0, 1) := by decide +kernel
theorem dX4_init_1 : decode cX4_init 1 = .ok (.invokespecial 3, 3) := by decide +kernel
theorem w_311 : Cond.methodLink "QuarterWalks$Matrix" 3 objectInit ∈ wAll := wI1 216 (by decide +kernel) (by decide +kernel)
theorem dX4_init_4 : decode cX4_init 4 = .ok (.aload_n 0, 1) := by decide +kernel
theorem dX4_init_5 : decode cX4_init 5 = .ok (.bipush 32, 2) := by decide +kernel
theorem dX4_init_7 : decode cX4_init 7 = .ok (.bipush 28, 2) := by decide +kernel
theorem dX4_init_9 : decode cX4_init 9 = .ok (.multianewarray 11 2, 4) := by decide +kernel
theorem flw_X4_13 : flw RX4 13 5 0 (.array (.array (.long))) := ⟨RX4, TX4, 4, tyX4, rfl, inA_X4, by decide, w_314, tyX4_ok, nmX4, by decide +kernel, Or.inr ⟨rfl, rfl⟩⟩
theorem w_312 : Cond.classLink RX4 11 ("[" ++ (FieldType.array .long).toString) ∈ wAll := wI1 217 (by decide +kernel) (by decide +kernel)
theorem w_235 : Cond.arrayClass FieldType.long ∈ wAll := wI1 140 (by decide +kernel) (by decide +kernel)
theorem dX4_init_13 : decode cX4_init 13 = .ok (.putfield 13, 3) := by decide +kernel
theorem dX4_init_16 : decode cX4_init 16 = .ok (.return_, 1) := by decide +kernel
theorem dX2_init_0 : decode cX2_init 0 = .ok (.aload_n 0, 1) := by decide +kernel
theorem dX2_init_1 : decode cX2_init 1 = .ok (.invokespecial 5, 3) := by decide +kernel
theorem w_211 : Cond.methodLink "QuarterWalks$Grid" 5 objectInit ∈ wAll := wI1 116 (by decide +kernel) (by decide +kernel)
theorem dX2_init_4 : decode cX2_init 4 = .ok (.aload_n 0, 1) := by decide +kernel
theorem dX2_init_5 : decode cX2_init 5 = .ok (.sipush 15129, 3) := by decide +kernel
theorem dX2_init_8 : decode cX2_init 8 = .ok (.newarray .long, 2) := by decide +kernel
theorem dX2_init_10 : decode cX2_init 10 = .ok (.putfield 11, 3) := by decide +kernel
theorem dX2_init_13 : decode cX2_init 13 = .ok (.aload_n 0, 1) := by decide +kernel
theorem dX2_init_14 : decode cX2_init 14 = .ok (.sipush 15129, 3) := by decide +kernel
theorem dX2_init_17 : decode cX2_init 17 = .ok (.newarray .long, 2) := by decide +kernel
theorem dX2_init_19 : decode cX2_init 19 = .ok (.putfield 15, 3) := by decide +kernel
theorem dX2_init_22 : decode cX2_init 22 = .ok (.aload_n 0, 1) := by decide +kernel
theorem dX2_init_23 : decode cX2_init 23 = .ok (.new 18, 3) := by decide +kernel
theorem w_212 : Cond.classLink "QuarterWalks$Grid" 18 "QuarterWalks$Box" ∈ wAll := wI1 117 (by decide +kernel) (by decide +kernel)
theorem w_213 : Cond.instantiable "QuarterWalks$Box" 4 ∈ wAll := wI1 118 (by decide +kernel) (by decide +kernel)
theorem nw_X2_18 : nw RX2 18 2 4 [.int 0, .int 0, .int 0, .int 0] := ⟨RX1, TX1, tyX1, rfl, inA_X1, tyX1_ok, w_212, w_213, w_101, by decide +kernel⟩
theorem dX2_init_26 : decode cX2_init 26 = .ok (.dup, 1) := by decide +kernel
theorem dX2_init_27 : decode cX2_init 27 = .ok (.invokespecial 20, 3) := by decide +kernel
theorem flw_X2_21 : flw RX2 21 3 2 (.object "QuarterWalks$Box") := ⟨RX2, TX2, 11, tyX2, rfl, inA_X2, by decide, w_238, tyX2_ok, nmX2, by decide +kernel, Or.inr ⟨rfl, rfl⟩⟩
theorem mk_X1_init : mk yX1_init 0 := ⟨by decide +kernel, w_101⟩
theorem w_215 : Cond.instanceMethod yX1_init ∈ wAll := wI1 120 (by decide +kernel) (by decide +kernel)
theorem w_216 : Cond.code yX1_init cX1_init 1 none ∈ wAll := wI1 121 (by decide +kernel) (by decide +kernel)
theorem dX2_init_30 : decode cX2_init 30 = .ok (.putfield 21, 3) := by decide +kernel
theorem dX2_init_33 : decode cX2_init 33 = .ok (.aload_n 0, 1) := by decide +kernel
theorem dX2_init_34 : decode cX2_init 34 = .ok (.new 18, 3) := by decide +kernel
theorem dX2_init_37 : decode cX2_init 37 = .ok (.dup, 1) := by decide +kernel
theorem dX2_init_38 : decode cX2_init 38 = .ok (.invokespecial 20, 3) := by decide +kernel
theorem flw_X2_25 : flw RX2 25 3 3 (.object "QuarterWalks$Box") := ⟨RX2, TX2, 11, tyX2, rfl, inA_X2, by decide, w_239, tyX2_ok, nmX2, by decide +kernel, Or.inr ⟨rfl, rfl⟩⟩
theorem dX2_init_41 : decode cX2_init 41 = .ok (.putfield 25, 3) := by decide +kernel
theorem dX2_init_44 : decode cX2_init 44 = .ok (.aload_n 0, 1) := by decide +kernel
theorem dX2_init_45 : decode cX2_init 45 = .ok (.bipush 8, 2) := by decide +kernel
theorem dX2_init_47 : decode cX2_init 47 = .ok (.newarray .int, 2) := by decide +kernel
theorem flw_X2_28 : flw RX2 28 3 4 (.array (.int)) := ⟨RX2, TX2, 11, tyX2, rfl, inA_X2, by decide, w_240, tyX2_ok, nmX2, by decide +kernel, Or.inr ⟨rfl, rfl⟩⟩
theorem dX2_init_49 : decode cX2_init 49 = .ok (.putfield 28, 3) := by decide +kernel
theorem dX2_init_52 : decode cX2_init 52 = .ok (.aload_n 0, 1) := by decide +kernel
theorem dX2_init_53 : decode cX2_init 53 = .ok (.bipush 8, 2) := by decide +kernel
theorem dX2_init_55 : decode cX2_init 55 = .ok (.newarray .long, 2) := by decide +kernel
theorem flw_X2_32 : flw RX2 32 3 5 (.array (.long)) := ⟨RX2, TX2, 11, tyX2, rfl, inA_X2, by decide, w_241, tyX2_ok, nmX2, by decide +kernel, Or.inr ⟨rfl, rfl⟩⟩
theorem dX2_init_57 : decode cX2_init 57 = .ok (.putfield 32, 3) := by decide +kernel
theorem dX2_init_60 : decode cX2_init 60 = .ok (.return_, 1) := by decide +kernel
theorem dX3_init_0 : decode cX3_init 0 = .ok (.aload_n 0, 1) := by decide +kernel
theorem dX3_init_1 : decode cX3_init 1 = .ok (.invokespecial 3, 3) := by decide +kernel
theorem w_332 : Cond.methodLink "QuarterWalks$Guess" 3 objectInit ∈ wAll := wI1 237 (by decide +kernel) (by decide +kernel)
theorem dX3_init_4 : decode cX3_init 4 = .ok (.aload_n 0, 1) := by decide +kernel
theorem dX3_init_5 : decode cX3_init 5 = .ok (.aload_n 1, 1) := by decide +kernel
theorem dX3_init_6 : decode cX3_init 6 = .ok (.putfield 9, 3) := by decide +kernel
theorem flw_X3_9 : flw RX3 9 4 0 (.object "QuarterWalks$Matrix") := ⟨RX3, TX3, 4, tyX3, rfl, inA_X3, by decide, w_334, tyX3_ok, nmX3, by decide +kernel, Or.inr ⟨rfl, rfl⟩⟩
theorem dX3_init_9 : decode cX3_init 9 = .ok (.aload_n 0, 1) := by decide +kernel
theorem dX3_init_10 : decode cX3_init 10 = .ok (.iconst 4, 1) := by decide +kernel
theorem dX3_init_11 : decode cX3_init 11 = .ok (.bipush 61, 2) := by decide +kernel
theorem dX3_init_13 : decode cX3_init 13 = .ok (.multianewarray 15 2, 4) := by decide +kernel
theorem flw_X3_17 : flw RX3 17 4 1 (.array (.array (.int))) := ⟨RX3, TX3, 4, tyX3, rfl, inA_X3, by decide, w_335, tyX3_ok, nmX3, by decide +kernel, Or.inr ⟨rfl, rfl⟩⟩
theorem w_333 : Cond.classLink RX3 15 ("[" ++ (FieldType.array .int).toString) ∈ wAll := wI1 238 (by decide +kernel) (by decide +kernel)
theorem dX3_init_17 : decode cX3_init 17 = .ok (.putfield 17, 3) := by decide +kernel
theorem dX3_init_20 : decode cX3_init 20 = .ok (.aload_n 0, 1) := by decide +kernel
theorem dX3_init_21 : decode cX3_init 21 = .ok (.bipush 28, 2) := by decide +kernel
theorem dX3_init_23 : decode cX3_init 23 = .ok (.newarray .int, 2) := by decide +kernel
theorem flw_X3_22 : flw RX3 22 4 2 (.array (.int)) := ⟨RX3, TX3, 4, tyX3, rfl, inA_X3, by decide, w_336, tyX3_ok, nmX3, by decide +kernel, Or.inr ⟨rfl, rfl⟩⟩
theorem dX3_init_25 : decode cX3_init 25 = .ok (.putfield 22, 3) := by decide +kernel
theorem dX3_init_28 : decode cX3_init 28 = .ok (.return_, 1) := by decide +kernel
theorem dJ5_init_d00df_0 : decode cJ5_init_d00df 0 = .ok (.aload_n 0, 1) := by decide +kernel
theorem dJ5_init_d00df_1 : decode cJ5_init_d00df 1 = .ok (.invokespecial 3, 3) := by decide +kernel
theorem w_355 : Cond.methodLink "java/lang/AbstractStringBuilder" 3 objectInit ∈ wAll := wI2 20 (by decide +kernel) (by decide +kernel)
theorem dJ5_init_d00df_4 : decode cJ5_init_d00df 4 = .ok (.getstatic 18, 3) := by decide +kernel
theorem dJ5_init_d00df_7 : decode cJ5_init_d00df 7 = .ok (.ifCond .eq 18, 3) := by decide +kernel
theorem dJ5_init_d00df_10 : decode cJ5_init_d00df 10 = .ok (.aload_n 0, 1) := by decide +kernel
theorem dJ5_init_d00df_11 : decode cJ5_init_d00df 11 = .ok (.iload_n 1, 1) := by decide +kernel
theorem dJ5_init_d00df_12 : decode cJ5_init_d00df 12 = .ok (.newarray .byte, 2) := by decide +kernel
theorem dJ5_init_d00df_14 : decode cJ5_init_d00df 14 = .ok (.putfield 15, 3) := by decide +kernel
theorem dJ5_init_d00df_17 : decode cJ5_init_d00df 17 = .ok (.aload_n 0, 1) := by decide +kernel
theorem dJ5_init_d00df_18 : decode cJ5_init_d00df 18 = .ok (.iconst 0, 1) := by decide +kernel
theorem dJ5_init_d00df_19 : decode cJ5_init_d00df 19 = .ok (.putfield 22, 3) := by decide +kernel
theorem flw_J5_22 : flw RJ5 22 0 1 (.byte) := ⟨RJ4, TJ4, 4, tyJ4, rfl, inA_J4, by decide, w_366, tyJ4_ok, nmJ4, by decide +kernel, Or.inl rfl⟩
theorem dJ5_init_d00df_22 : decode cJ5_init_d00df 22 = .ok (.goto 16, 3) := by decide +kernel
theorem dJ5_init_d00df_38 : decode cJ5_init_d00df 38 = .ok (.return_, 1) := by decide +kernel
theorem dJ4_init_da8c8_0 : decode cJ4_init_da8c8 0 = .ok (.aload_n 0, 1) := by decide +kernel
theorem dJ4_init_da8c8_1 : decode cJ4_init_da8c8 1 = .ok (.bipush 16, 2) := by decide +kernel
theorem dJ4_init_da8c8_3 : decode cJ4_init_da8c8 3 = .ok (.invokespecial 1, 3) := by decide +kernel
theorem w_352 : Cond.methodLink "java/lang/StringBuilder" 1 yJ5_init_d00df ∈ wAll := wI2 17 (by decide +kernel) (by decide +kernel)
theorem mk_J5_init_d00df : mk yJ5_init_d00df 1 := ⟨by decide +kernel, w_106⟩
theorem w_353 : Cond.instanceMethod yJ5_init_d00df ∈ wAll := wI2 18 (by decide +kernel) (by decide +kernel)
theorem w_354 : Cond.code yJ5_init_d00df cJ5_init_d00df 2 none ∈ wAll := wI2 19 (by decide +kernel) (by decide +kernel)
theorem dJ4_init_da8c8_6 : decode cJ4_init_da8c8 6 = .ok (.return_, 1) := by decide +kernel
theorem dX0_init_0 : decode cX0_init 0 = .ok (.aload_n 0, 1) := by decide +kernel
theorem dX0_init_1 : decode cX0_init 1 = .ok (.invokespecial 3, 3) := by decide +kernel
theorem w_167 : Cond.methodLink "QuarterWalks$Book" 3 objectInit ∈ wAll := wI1 72 (by decide +kernel) (by decide +kernel)
theorem dX0_init_4 : decode cX0_init 4 = .ok (.aload_n 0, 1) := by decide +kernel
theorem dX0_init_5 : decode cX0_init 5 = .ok (.new 9, 3) := by decide +kernel
theorem w_168 : Cond.classLink "QuarterWalks$Book" 9 "QuarterWalks$Shelf" ∈ wAll := wI1 73 (by decide +kernel) (by decide +kernel)
theorem w_169 : Cond.instantiable "QuarterWalks$Shelf" 2 ∈ wAll := wI1 74 (by decide +kernel) (by decide +kernel)
theorem nw_X0_9 : nw RX0 9 6 2 [.null, .int 0] := ⟨RX5, TX5, tyX5, rfl, inA_X5, tyX5_ok, w_168, w_169, w_99, by decide +kernel⟩
theorem dX0_init_8 : decode cX0_init 8 = .ok (.dup, 1) := by decide +kernel
theorem dX0_init_9 : decode cX0_init 9 = .ok (.invokespecial 11, 3) := by decide +kernel
theorem w_170 : Cond.methodLink "QuarterWalks$Book" 11 yX5_init ∈ wAll := wI1 75 (by decide +kernel) (by decide +kernel)
theorem flw_X0_12 : flw RX0 12 1 1 (.object "QuarterWalks$Shelf") := ⟨RX0, TX0, 6, tyX0, rfl, inA_X0, by decide, w_188, tyX0_ok, nmX0, by decide +kernel, Or.inr ⟨rfl, rfl⟩⟩
theorem mk_X5_init : mk yX5_init 0 := ⟨by decide +kernel, w_99⟩
theorem w_171 : Cond.instanceMethod yX5_init ∈ wAll := wI1 76 (by decide +kernel) (by decide +kernel)
theorem w_172 : Cond.code yX5_init cX5_init 1 none ∈ wAll := wI1 77 (by decide +kernel) (by decide +kernel)
theorem dX0_init_12 : decode cX0_init 12 = .ok (.putfield 12, 3) := by decide +kernel
theorem dX0_init_15 : decode cX0_init 15 = .ok (.aload_n 0, 1) := by decide +kernel
theorem dX0_init_16 : decode cX0_init 16 = .ok (.new 9, 3) := by decide +kernel
theorem dX0_init_19 : decode cX0_init 19 = .ok (.dup, 1) := by decide +kernel
theorem dX0_init_20 : decode cX0_init 20 = .ok (.invokespecial 11, 3) := by decide +kernel
theorem flw_X0_18 : flw RX0 18 1 2 (.object "QuarterWalks$Shelf") := ⟨RX0, TX0, 6, tyX0, rfl, inA_X0, by decide, w_189, tyX0_ok, nmX0, by decide +kernel, Or.inr ⟨rfl, rfl⟩⟩
theorem dX0_init_23 : decode cX0_init 23 = .ok (.putfield 18, 3) := by decide +kernel
theorem dX0_init_26 : decode cX0_init 26 = .ok (.aload_n 0, 1) := by decide +kernel
theorem dX0_init_27 : decode cX0_init 27 = .ok (.bipush 12, 2) := by decide +kernel
theorem dX0_init_29 : decode cX0_init 29 = .ok (.anewarray 9, 3) := by decide +kernel
theorem dX0_init_32 : decode cX0_init 32 = .ok (.putfield 21, 3) := by decide +kernel
theorem flw_X0_21 : flw RX0 21 1 3 (.array (.object "QuarterWalks$Shelf")) := ⟨RX0, TX0, 6, tyX0, rfl, inA_X0, by decide, w_190, tyX0_ok, nmX0, by decide +kernel, Or.inr ⟨rfl, rfl⟩⟩
theorem dX0_init_35 : decode cX0_init 35 = .ok (.iconst 0, 1) := by decide +kernel
theorem dX0_init_36 : decode cX0_init 36 = .ok (.istore_n 1, 1) := by decide +kernel
theorem dX0_init_37 : decode cX0_init 37 = .ok (.iload_n 1, 1) := by decide +kernel
theorem dX0_init_38 : decode cX0_init 38 = .ok (.bipush 12, 2) := by decide +kernel
theorem dX0_init_40 : decode cX0_init 40 = .ok (.if_icmp .ge 22, 3) := by decide +kernel
theorem dX0_init_43 : decode cX0_init 43 = .ok (.aload_n 0, 1) := by decide +kernel
theorem dX0_init_44 : decode cX0_init 44 = .ok (.getfield 21, 3) := by decide +kernel
theorem dX0_init_47 : decode cX0_init 47 = .ok (.iload_n 1, 1) := by decide +kernel
theorem dX0_init_48 : decode cX0_init 48 = .ok (.new 9, 3) := by decide +kernel
theorem dX0_init_51 : decode cX0_init 51 = .ok (.dup, 1) := by decide +kernel
theorem dX0_init_52 : decode cX0_init 52 = .ok (.invokespecial 11, 3) := by decide +kernel
theorem dX0_init_55 : decode cX0_init 55 = .ok (.aastore, 1) := by decide +kernel
theorem dX0_init_56 : decode cX0_init 56 = .ok (.iinc 1 1, 3) := by decide +kernel
theorem dX0_init_59 : decode cX0_init 59 = .ok (.goto (-22), 3) := by decide +kernel
theorem dX0_init_62 : decode cX0_init 62 = .ok (.return_, 1) := by decide +kernel
theorem dX10_init_0 : decode cX10_init 0 = .ok (.aload_n 0, 1) := by decide +kernel
theorem dX10_init_1 : decode cX10_init 1 = .ok (.invokespecial 3, 3) := by decide +kernel
theorem w_129 : Cond.methodLink "QuarterWalks" 3 objectInit ∈ wAll := wI1 34 (by decide +kernel) (by decide +kernel)
theorem dX10_init_4 : decode cX10_init 4 = .ok (.aload_n 0, 1) := by decide +kernel
theorem dX10_init_5 : decode cX10_init 5 = .ok (.new 9, 3) := by decide +kernel
theorem w_132 : Cond.classLink "QuarterWalks" 9 "QuarterWalks$Tape" ∈ wAll := wI1 37 (by decide +kernel) (by decide +kernel)
theorem w_133 : Cond.instantiable "QuarterWalks$Tape" 7 ∈ wAll := wI1 38 (by decide +kernel) (by decide +kernel)
theorem nw_X10_9 : nw RX10 9 8 7 [.int 0, .null, .null, .int 0, .int 0, .int 0, .int 0] := ⟨RX7, TX7, tyX7, rfl, inA_X7, tyX7_ok, w_132, w_133, w_97, by decide +kernel⟩
theorem dX10_init_8 : decode cX10_init 8 = .ok (.dup, 1) := by decide +kernel
theorem dX10_init_9 : decode cX10_init 9 = .ok (.invokespecial 11, 3) := by decide +kernel
theorem w_134 : Cond.methodLink "QuarterWalks" 11 yX7_init ∈ wAll := wI1 39 (by decide +kernel) (by decide +kernel)
theorem mk_X7_init : mk yX7_init 0 := ⟨by decide +kernel, w_97⟩
theorem w_135 : Cond.instanceMethod yX7_init ∈ wAll := wI1 40 (by decide +kernel) (by decide +kernel)
theorem w_136 : Cond.code yX7_init cX7_init 1 none ∈ wAll := wI1 41 (by decide +kernel) (by decide +kernel)
theorem dX10_init_12 : decode cX10_init 12 = .ok (.putfield 12, 3) := by decide +kernel
theorem flw_X10_12 : flw RX10 12 11 0 (.object "QuarterWalks$Tape") := ⟨RX10, TX10, 10, tyX10, rfl, inA_X10, by decide, w_379, tyX10_ok, nmX10, by decide +kernel, Or.inr ⟨rfl, rfl⟩⟩
theorem dX10_init_15 : decode cX10_init 15 = .ok (.aload_n 0, 1) := by decide +kernel
theorem dX10_init_16 : decode cX10_init 16 = .ok (.new 16, 3) := by decide +kernel
theorem w_162 : Cond.classLink "QuarterWalks" 16 "QuarterWalks$Book" ∈ wAll := wI1 67 (by decide +kernel) (by decide +kernel)
theorem w_163 : Cond.instantiable "QuarterWalks$Book" 6 ∈ wAll := wI1 68 (by decide +kernel) (by decide +kernel)
theorem nw_X10_16 : nw RX10 16 1 6 [.int 0, .null, .null, .null, .int 0, .int 0] := ⟨RX0, TX0, tyX0, rfl, inA_X0, tyX0_ok, w_162, w_163, w_98, by decide +kernel⟩
theorem dX10_init_19 : decode cX10_init 19 = .ok (.dup, 1) := by decide +kernel
theorem dX10_init_20 : decode cX10_init 20 = .ok (.invokespecial 18, 3) := by decide +kernel
theorem w_164 : Cond.methodLink "QuarterWalks" 18 yX0_init ∈ wAll := wI1 69 (by decide +kernel) (by decide +kernel)
theorem mk_X0_init : mk yX0_init 0 := ⟨by decide +kernel, w_98⟩
theorem w_165 : Cond.instanceMethod yX0_init ∈ wAll := wI1 70 (by decide +kernel) (by decide +kernel)
theorem w_166 : Cond.code yX0_init cX0_init 2 none ∈ wAll := wI1 71 (by decide +kernel) (by decide +kernel)
theorem dX10_init_23 : decode cX10_init 23 = .ok (.putfield 19, 3) := by decide +kernel
theorem flw_X10_19 : flw RX10 19 11 1 (.object "QuarterWalks$Book") := ⟨RX10, TX10, 10, tyX10, rfl, inA_X10, by decide, w_380, tyX10_ok, nmX10, by decide +kernel, Or.inr ⟨rfl, rfl⟩⟩
theorem dX10_init_26 : decode cX10_init 26 = .ok (.aload_n 0, 1) := by decide +kernel
theorem dX10_init_27 : decode cX10_init 27 = .ok (.new 23, 3) := by decide +kernel
theorem w_206 : Cond.classLink "QuarterWalks" 23 "QuarterWalks$Grid" ∈ wAll := wI1 111 (by decide +kernel) (by decide +kernel)
theorem w_207 : Cond.instantiable "QuarterWalks$Grid" 11 ∈ wAll := wI1 112 (by decide +kernel) (by decide +kernel)
theorem nw_X10_23 : nw RX10 23 3 11 [.null, .null, .null, .null, .null, .null, .int 0, .int 0, .int 0, .int 0, .int 0] := ⟨RX2, TX2, tyX2, rfl, inA_X2, tyX2_ok, w_206, w_207, w_100, by decide +kernel⟩
theorem dX10_init_30 : decode cX10_init 30 = .ok (.dup, 1) := by decide +kernel
theorem dX10_init_31 : decode cX10_init 31 = .ok (.invokespecial 25, 3) := by decide +kernel
theorem w_208 : Cond.methodLink "QuarterWalks" 25 yX2_init ∈ wAll := wI1 113 (by decide +kernel) (by decide +kernel)
theorem mk_X2_init : mk yX2_init 0 := ⟨by decide +kernel, w_100⟩
theorem w_209 : Cond.instanceMethod yX2_init ∈ wAll := wI1 114 (by decide +kernel) (by decide +kernel)
theorem w_210 : Cond.code yX2_init cX2_init 1 none ∈ wAll := wI1 115 (by decide +kernel) (by decide +kernel)
theorem dX10_init_34 : decode cX10_init 34 = .ok (.putfield 26, 3) := by decide +kernel
theorem flw_X10_26 : flw RX10 26 11 2 (.object "QuarterWalks$Grid") := ⟨RX10, TX10, 10, tyX10, rfl, inA_X10, by decide, w_381, tyX10_ok, nmX10, by decide +kernel, Or.inr ⟨rfl, rfl⟩⟩
theorem dX10_init_37 : decode cX10_init 37 = .ok (.aload_n 0, 1) := by decide +kernel
theorem dX10_init_38 : decode cX10_init 38 = .ok (.new 30, 3) := by decide +kernel
theorem w_270 : Cond.classLink "QuarterWalks" 30 "QuarterWalks$Ways" ∈ wAll := wI1 175 (by decide +kernel) (by decide +kernel)
theorem w_271 : Cond.instantiable "QuarterWalks$Ways" 4 ∈ wAll := wI1 176 (by decide +kernel) (by decide +kernel)
theorem nw_X10_30 : nw RX10 30 10 4 [.null, .int 0, .int 0, .int 0] := ⟨RX9, TX9, tyX9, rfl, inA_X9, tyX9_ok, w_270, w_271, w_102, by decide +kernel⟩
theorem dX10_init_41 : decode cX10_init 41 = .ok (.dup, 1) := by decide +kernel
theorem dX10_init_42 : decode cX10_init 42 = .ok (.invokespecial 32, 3) := by decide +kernel
theorem w_272 : Cond.methodLink "QuarterWalks" 32 yX9_init ∈ wAll := wI1 177 (by decide +kernel) (by decide +kernel)
theorem mk_X9_init : mk yX9_init 0 := ⟨by decide +kernel, w_102⟩
theorem w_273 : Cond.instanceMethod yX9_init ∈ wAll := wI1 178 (by decide +kernel) (by decide +kernel)
theorem w_274 : Cond.code yX9_init cX9_init 1 none ∈ wAll := wI1 179 (by decide +kernel) (by decide +kernel)
theorem dX10_init_45 : decode cX10_init 45 = .ok (.putfield 33, 3) := by decide +kernel
theorem flw_X10_33 : flw RX10 33 11 3 (.object "QuarterWalks$Ways") := ⟨RX10, TX10, 10, tyX10, rfl, inA_X10, by decide, w_382, tyX10_ok, nmX10, by decide +kernel, Or.inr ⟨rfl, rfl⟩⟩
theorem dX10_init_48 : decode cX10_init 48 = .ok (.aload_n 0, 1) := by decide +kernel
theorem dX10_init_49 : decode cX10_init 49 = .ok (.new 37, 3) := by decide +kernel
theorem w_291 : Cond.classLink "QuarterWalks" 37 "QuarterWalks$Turns" ∈ wAll := wI1 196 (by decide +kernel) (by decide +kernel)
theorem w_292 : Cond.instantiable "QuarterWalks$Turns" 2 ∈ wAll := wI1 197 (by decide +kernel) (by decide +kernel)
theorem nw_X10_37 : nw RX10 37 9 2 [.null, .null] := ⟨RX8, TX8, tyX8, rfl, inA_X8, tyX8_ok, w_291, w_292, w_103, by decide +kernel⟩
theorem dX10_init_52 : decode cX10_init 52 = .ok (.dup, 1) := by decide +kernel
theorem dX10_init_53 : decode cX10_init 53 = .ok (.invokespecial 39, 3) := by decide +kernel
theorem w_293 : Cond.methodLink "QuarterWalks" 39 yX8_init ∈ wAll := wI1 198 (by decide +kernel) (by decide +kernel)
theorem mk_X8_init : mk yX8_init 0 := ⟨by decide +kernel, w_103⟩
theorem w_294 : Cond.instanceMethod yX8_init ∈ wAll := wI1 199 (by decide +kernel) (by decide +kernel)
theorem w_295 : Cond.code yX8_init cX8_init 1 none ∈ wAll := wI1 200 (by decide +kernel) (by decide +kernel)
theorem dX10_init_56 : decode cX10_init 56 = .ok (.putfield 40, 3) := by decide +kernel
theorem flw_X10_40 : flw RX10 40 11 4 (.object "QuarterWalks$Turns") := ⟨RX10, TX10, 10, tyX10, rfl, inA_X10, by decide, w_383, tyX10_ok, nmX10, by decide +kernel, Or.inr ⟨rfl, rfl⟩⟩
theorem dX10_init_59 : decode cX10_init 59 = .ok (.aload_n 0, 1) := by decide +kernel
theorem dX10_init_60 : decode cX10_init 60 = .ok (.new 44, 3) := by decide +kernel
theorem w_306 : Cond.classLink "QuarterWalks" 44 "QuarterWalks$Matrix" ∈ wAll := wI1 211 (by decide +kernel) (by decide +kernel)
theorem w_307 : Cond.instantiable "QuarterWalks$Matrix" 4 ∈ wAll := wI1 212 (by decide +kernel) (by decide +kernel)
theorem nw_X10_44 : nw RX10 44 5 4 [.null, .int 0, .int 0, .int 0] := ⟨RX4, TX4, tyX4, rfl, inA_X4, tyX4_ok, w_306, w_307, w_104, by decide +kernel⟩
theorem dX10_init_63 : decode cX10_init 63 = .ok (.dup, 1) := by decide +kernel
theorem dX10_init_64 : decode cX10_init 64 = .ok (.invokespecial 46, 3) := by decide +kernel
theorem w_308 : Cond.methodLink "QuarterWalks" 46 yX4_init ∈ wAll := wI1 213 (by decide +kernel) (by decide +kernel)
theorem mk_X4_init : mk yX4_init 0 := ⟨by decide +kernel, w_104⟩
theorem w_309 : Cond.instanceMethod yX4_init ∈ wAll := wI1 214 (by decide +kernel) (by decide +kernel)
theorem w_310 : Cond.code yX4_init cX4_init 1 none ∈ wAll := wI1 215 (by decide +kernel) (by decide +kernel)
theorem dX10_init_67 : decode cX10_init 67 = .ok (.putfield 47, 3) := by decide +kernel
theorem flw_X10_47 : flw RX10 47 11 5 (.object "QuarterWalks$Matrix") := ⟨RX10, TX10, 10, tyX10, rfl, inA_X10, by decide, w_384, tyX10_ok, nmX10, by decide +kernel, Or.inr ⟨rfl, rfl⟩⟩
theorem dX10_init_70 : decode cX10_init 70 = .ok (.aload_n 0, 1) := by decide +kernel
theorem dX10_init_71 : decode cX10_init 71 = .ok (.new 51, 3) := by decide +kernel
theorem w_327 : Cond.classLink "QuarterWalks" 51 "QuarterWalks$Guess" ∈ wAll := wI1 232 (by decide +kernel) (by decide +kernel)
theorem w_328 : Cond.instantiable "QuarterWalks$Guess" 4 ∈ wAll := wI1 233 (by decide +kernel) (by decide +kernel)
theorem nw_X10_51 : nw RX10 51 4 4 [.null, .null, .null, .int 0] := ⟨RX3, TX3, tyX3, rfl, inA_X3, tyX3_ok, w_327, w_328, w_105, by decide +kernel⟩
theorem dX10_init_74 : decode cX10_init 74 = .ok (.dup, 1) := by decide +kernel
theorem dX10_init_75 : decode cX10_init 75 = .ok (.aload_n 0, 1) := by decide +kernel
theorem dX10_init_76 : decode cX10_init 76 = .ok (.getfield 47, 3) := by decide +kernel
theorem dX10_init_79 : decode cX10_init 79 = .ok (.invokespecial 53, 3) := by decide +kernel
theorem w_329 : Cond.methodLink "QuarterWalks" 53 yX3_init ∈ wAll := wI1 234 (by decide +kernel) (by decide +kernel)
theorem mk_X3_init : mk yX3_init 1 := ⟨by decide +kernel, w_105⟩
theorem w_330 : Cond.instanceMethod yX3_init ∈ wAll := wI1 235 (by decide +kernel) (by decide +kernel)
theorem w_331 : Cond.code yX3_init cX3_init 2 none ∈ wAll := wI1 236 (by decide +kernel) (by decide +kernel)
theorem dX10_init_82 : decode cX10_init 82 = .ok (.putfield 56, 3) := by decide +kernel
theorem flw_X10_56 : flw RX10 56 11 6 (.object "QuarterWalks$Guess") := ⟨RX10, TX10, 10, tyX10, rfl, inA_X10, by decide, w_385, tyX10_ok, nmX10, by decide +kernel, Or.inr ⟨rfl, rfl⟩⟩
theorem dX10_init_85 : decode cX10_init 85 = .ok (.aload_n 0, 1) := by decide +kernel
theorem dX10_init_86 : decode cX10_init 86 = .ok (.iconst 4, 1) := by decide +kernel
theorem dX10_init_87 : decode cX10_init 87 = .ok (.newarray .int, 2) := by decide +kernel
theorem flw_X10_60 : flw RX10 60 11 7 (.array (.int)) := ⟨RX10, TX10, 10, tyX10, rfl, inA_X10, by decide, w_386, tyX10_ok, nmX10, by decide +kernel, Or.inr ⟨rfl, rfl⟩⟩
theorem dX10_init_89 : decode cX10_init 89 = .ok (.putfield 60, 3) := by decide +kernel
theorem dX10_init_92 : decode cX10_init 92 = .ok (.aload_n 0, 1) := by decide +kernel
theorem dX10_init_93 : decode cX10_init 93 = .ok (.sipush 4900, 3) := by decide +kernel
theorem dX10_init_96 : decode cX10_init 96 = .ok (.newarray .long, 2) := by decide +kernel
theorem flw_X10_64 : flw RX10 64 11 8 (.array (.long)) := ⟨RX10, TX10, 10, tyX10, rfl, inA_X10, by decide, w_387, tyX10_ok, nmX10, by decide +kernel, Or.inr ⟨rfl, rfl⟩⟩
theorem dX10_init_98 : decode cX10_init 98 = .ok (.putfield 64, 3) := by decide +kernel
theorem dX10_init_101 : decode cX10_init 101 = .ok (.aload_n 0, 1) := by decide +kernel
theorem dX10_init_102 : decode cX10_init 102 = .ok (.new 68, 3) := by decide +kernel
theorem w_347 : Cond.classLink "QuarterWalks" 68 "java/lang/StringBuilder" ∈ wAll := wI2 12 (by decide +kernel) (by decide +kernel)
theorem w_348 : Cond.instantiable "java/lang/StringBuilder" 4 ∈ wAll := wI2 13 (by decide +kernel) (by decide +kernel)
theorem nw_X10_68 : nw RX10 68 0 4 [.null, .int 0, .int 0, .int 0] := ⟨RJ4, TJ4, tyJ4, rfl, inA_J4, tyJ4_ok, w_347, w_348, w_107, by decide +kernel⟩
theorem dX10_init_105 : decode cX10_init 105 = .ok (.dup, 1) := by decide +kernel
theorem dX10_init_106 : decode cX10_init 106 = .ok (.invokespecial 70, 3) := by decide +kernel
theorem w_349 : Cond.methodLink "QuarterWalks" 70 yJ4_init_da8c8 ∈ wAll := wI2 14 (by decide +kernel) (by decide +kernel)
theorem mk_J4_init_da8c8 : mk yJ4_init_da8c8 0 := ⟨by decide +kernel, w_107⟩
theorem w_350 : Cond.instanceMethod yJ4_init_da8c8 ∈ wAll := wI2 15 (by decide +kernel) (by decide +kernel)
theorem w_351 : Cond.code yJ4_init_da8c8 cJ4_init_da8c8 1 none ∈ wAll := wI2 16 (by decide +kernel) (by decide +kernel)
theorem dX10_init_109 : decode cX10_init 109 = .ok (.putfield 71, 3) := by decide +kernel
theorem flw_X10_71 : flw RX10 71 11 9 (.object "java/lang/StringBuilder") := ⟨RX10, TX10, 10, tyX10, rfl, inA_X10, by decide, w_388, tyX10_ok, nmX10, by decide +kernel, Or.inr ⟨rfl, rfl⟩⟩
theorem dX10_init_112 : decode cX10_init 112 = .ok (.return_, 1) := by decide +kernel
theorem dX11_init_0 : decode cX11_init 0 = .ok (.aload_n 0, 1) := by decide +kernel
theorem dX11_init_1 : decode cX11_init 1 = .ok (.invokespecial 3, 3) := by decide +kernel
theorem w_1432 : Cond.methodLink "QuarterWalksModel" 3 objectInit ∈ wAll := wI6 137 (by decide +kernel) (by decide +kernel)
theorem dX11_init_4 : decode cX11_init 4 = .ok (.aload_n 0, 1) := by decide +kernel
theorem dX11_init_5 : decode cX11_init 5 = .ok (.sipush 200, 3) := by decide +kernel
theorem dX11_init_8 : decode cX11_init 8 = .ok (.newarray .byte, 2) := by decide +kernel
theorem flw_X11_9 : flw RX11 9 12 1 (.array (.byte)) := ⟨RX11, TX11, 32, tyX11, rfl, inA_X11, by decide, w_1434, tyX11_ok, nmX11, by decide +kernel, Or.inr ⟨rfl, rfl⟩⟩
theorem dX11_init_10 : decode cX11_init 10 = .ok (.putfield 9, 3) := by decide +kernel
theorem dX11_init_13 : decode cX11_init 13 = .ok (.aload_n 0, 1) := by decide +kernel
theorem dX11_init_14 : decode cX11_init 14 = .ok (.bipush 10, 2) := by decide +kernel
theorem dX11_init_16 : decode cX11_init 16 = .ok (.newarray .int, 2) := by decide +kernel
theorem flw_X11_13 : flw RX11 13 12 5 (.array (.int)) := ⟨RX11, TX11, 32, tyX11, rfl, inA_X11, by decide, w_1438, tyX11_ok, nmX11, by decide +kernel, Or.inr ⟨rfl, rfl⟩⟩
theorem dX11_init_18 : decode cX11_init 18 = .ok (.putfield 13, 3) := by decide +kernel
theorem dX11_init_21 : decode cX11_init 21 = .ok (.aload_n 0, 1) := by decide +kernel
theorem dX11_init_22 : decode cX11_init 22 = .ok (.bipush 81, 2) := by decide +kernel
theorem dX11_init_24 : decode cX11_init 24 = .ok (.newarray .int, 2) := by decide +kernel
theorem flw_X11_17 : flw RX11 17 12 6 (.array (.int)) := ⟨RX11, TX11, 32, tyX11, rfl, inA_X11, by decide, w_1439, tyX11_ok, nmX11, by decide +kernel, Or.inr ⟨rfl, rfl⟩⟩
theorem dX11_init_26 : decode cX11_init 26 = .ok (.putfield 17, 3) := by decide +kernel
theorem dX11_init_29 : decode cX11_init 29 = .ok (.aload_n 0, 1) := by decide +kernel
theorem dX11_init_30 : decode cX11_init 30 = .ok (.bipush 81, 2) := by decide +kernel
theorem dX11_init_32 : decode cX11_init 32 = .ok (.newarray .int, 2) := by decide +kernel
theorem flw_X11_20 : flw RX11 20 12 7 (.array (.int)) := ⟨RX11, TX11, 32, tyX11, rfl, inA_X11, by decide, w_1440, tyX11_ok, nmX11, by decide +kernel, Or.inr ⟨rfl, rfl⟩⟩
theorem dX11_init_34 : decode cX11_init 34 = .ok (.putfield 20, 3) := by decide +kernel
theorem dX11_init_37 : decode cX11_init 37 = .ok (.aload_n 0, 1) := by decide +kernel
theorem dX11_init_38 : decode cX11_init 38 = .ok (.sipush 972, 3) := by decide +kernel
theorem dX11_init_41 : decode cX11_init 41 = .ok (.newarray .int, 2) := by decide +kernel
theorem flw_X11_23 : flw RX11 23 12 8 (.array (.int)) := ⟨RX11, TX11, 32, tyX11, rfl, inA_X11, by decide, w_1441, tyX11_ok, nmX11, by decide +kernel, Or.inr ⟨rfl, rfl⟩⟩
theorem dX11_init_43 : decode cX11_init 43 = .ok (.putfield 23, 3) := by decide +kernel
theorem dX11_init_46 : decode cX11_init 46 = .ok (.aload_n 0, 1) := by decide +kernel
theorem dX11_init_47 : decode cX11_init 47 = .ok (.iconst 4, 1) := by decide +kernel
theorem dX11_init_48 : decode cX11_init 48 = .ok (.newarray .int, 2) := by decide +kernel
theorem flw_X11_26 : flw RX11 26 12 9 (.array (.int)) := ⟨RX11, TX11, 32, tyX11, rfl, inA_X11, by decide, w_1442, tyX11_ok, nmX11, by decide +kernel, Or.inr ⟨rfl, rfl⟩⟩
theorem dX11_init_50 : decode cX11_init 50 = .ok (.putfield 26, 3) := by decide +kernel
theorem dX11_init_53 : decode cX11_init 53 = .ok (.aload_n 0, 1) := by decide +kernel
theorem dX11_init_54 : decode cX11_init 54 = .ok (.sipush 19600, 3) := by decide +kernel
theorem dX11_init_57 : decode cX11_init 57 = .ok (.newarray .long, 2) := by decide +kernel
theorem dX11_init_59 : decode cX11_init 59 = .ok (.putfield 29, 3) := by decide +kernel
theorem dX11_init_62 : decode cX11_init 62 = .ok (.aload_n 0, 1) := by decide +kernel
theorem dX11_init_63 : decode cX11_init 63 = .ok (.sipush 19600, 3) := by decide +kernel
theorem dX11_init_66 : decode cX11_init 66 = .ok (.newarray .long, 2) := by decide +kernel
theorem dX11_init_68 : decode cX11_init 68 = .ok (.putfield 33, 3) := by decide +kernel
theorem dX11_init_71 : decode cX11_init 71 = .ok (.aload_n 0, 1) := by decide +kernel
theorem dX11_init_72 : decode cX11_init 72 = .ok (.bipush 61, 2) := by decide +kernel
theorem dX11_init_74 : decode cX11_init 74 = .ok (.newarray .int, 2) := by decide +kernel
theorem flw_X11_36 : flw RX11 36 12 15 (.array (.int)) := ⟨RX11, TX11, 32, tyX11, rfl, inA_X11, by decide, w_1448, tyX11_ok, nmX11, by decide +kernel, Or.inr ⟨rfl, rfl⟩⟩
theorem dX11_init_76 : decode cX11_init 76 = .ok (.putfield 36, 3) := by decide +kernel
theorem dX11_init_79 : decode cX11_init 79 = .ok (.aload_n 0, 1) := by decide +kernel
theorem dX11_init_80 : decode cX11_init 80 = .ok (.bipush 61, 2) := by decide +kernel
theorem dX11_init_82 : decode cX11_init 82 = .ok (.newarray .int, 2) := by decide +kernel
theorem flw_X11_39 : flw RX11 39 12 16 (.array (.int)) := ⟨RX11, TX11, 32, tyX11, rfl, inA_X11, by decide, w_1449, tyX11_ok, nmX11, by decide +kernel, Or.inr ⟨rfl, rfl⟩⟩
theorem dX11_init_84 : decode cX11_init 84 = .ok (.putfield 39, 3) := by decide +kernel
theorem dX11_init_87 : decode cX11_init 87 = .ok (.aload_n 0, 1) := by decide +kernel
theorem dX11_init_88 : decode cX11_init 88 = .ok (.sipush 169, 3) := by decide +kernel
theorem dX11_init_91 : decode cX11_init 91 = .ok (.newarray .long, 2) := by decide +kernel
theorem flw_X11_42 : flw RX11 42 12 17 (.array (.long)) := ⟨RX11, TX11, 32, tyX11, rfl, inA_X11, by decide, w_1450, tyX11_ok, nmX11, by decide +kernel, Or.inr ⟨rfl, rfl⟩⟩
theorem dX11_init_93 : decode cX11_init 93 = .ok (.putfield 42, 3) := by decide +kernel
theorem dX11_init_96 : decode cX11_init 96 = .ok (.aload_n 0, 1) := by decide +kernel
theorem dX11_init_97 : decode cX11_init 97 = .ok (.sipush 19600, 3) := by decide +kernel
theorem dX11_init_100 : decode cX11_init 100 = .ok (.newarray .long, 2) := by decide +kernel
theorem flw_X11_45 : flw RX11 45 12 19 (.array (.long)) := ⟨RX11, TX11, 32, tyX11, rfl, inA_X11, by decide, w_1452, tyX11_ok, nmX11, by decide +kernel, Or.inr ⟨rfl, rfl⟩⟩
theorem dX11_init_102 : decode cX11_init 102 = .ok (.putfield 45, 3) := by decide +kernel
theorem dX11_init_105 : decode cX11_init 105 = .ok (.aload_n 0, 1) := by decide +kernel
theorem dX11_init_106 : decode cX11_init 106 = .ok (.bipush 41, 2) := by decide +kernel
theorem dX11_init_108 : decode cX11_init 108 = .ok (.newarray .int, 2) := by decide +kernel
theorem flw_X11_48 : flw RX11 48 12 20 (.array (.int)) := ⟨RX11, TX11, 32, tyX11, rfl, inA_X11, by decide, w_1453, tyX11_ok, nmX11, by decide +kernel, Or.inr ⟨rfl, rfl⟩⟩
theorem dX11_init_110 : decode cX11_init 110 = .ok (.putfield 48, 3) := by decide +kernel
theorem dX11_init_113 : decode cX11_init 113 = .ok (.aload_n 0, 1) := by decide +kernel
theorem dX11_init_114 : decode cX11_init 114 = .ok (.bipush 41, 2) := by decide +kernel
theorem dX11_init_116 : decode cX11_init 116 = .ok (.newarray .int, 2) := by decide +kernel
theorem flw_X11_51 : flw RX11 51 12 21 (.array (.int)) := ⟨RX11, TX11, 32, tyX11, rfl, inA_X11, by decide, w_1454, tyX11_ok, nmX11, by decide +kernel, Or.inr ⟨rfl, rfl⟩⟩
theorem dX11_init_118 : decode cX11_init 118 = .ok (.putfield 51, 3) := by decide +kernel
theorem dX11_init_121 : decode cX11_init 121 = .ok (.aload_n 0, 1) := by decide +kernel
theorem dX11_init_122 : decode cX11_init 122 = .ok (.sipush 1708, 3) := by decide +kernel
theorem dX11_init_125 : decode cX11_init 125 = .ok (.newarray .long, 2) := by decide +kernel
theorem flw_X11_54 : flw RX11 54 12 22 (.array (.long)) := ⟨RX11, TX11, 32, tyX11, rfl, inA_X11, by decide, w_1455, tyX11_ok, nmX11, by decide +kernel, Or.inr ⟨rfl, rfl⟩⟩
theorem dX11_init_127 : decode cX11_init 127 = .ok (.putfield 54, 3) := by decide +kernel
theorem dX11_init_130 : decode cX11_init 130 = .ok (.aload_n 0, 1) := by decide +kernel
theorem dX11_init_131 : decode cX11_init 131 = .ok (.sipush 1708, 3) := by decide +kernel
theorem dX11_init_134 : decode cX11_init 134 = .ok (.newarray .long, 2) := by decide +kernel
theorem flw_X11_57 : flw RX11 57 12 23 (.array (.long)) := ⟨RX11, TX11, 32, tyX11, rfl, inA_X11, by decide, w_1456, tyX11_ok, nmX11, by decide +kernel, Or.inr ⟨rfl, rfl⟩⟩
theorem dX11_init_136 : decode cX11_init 136 = .ok (.putfield 57, 3) := by decide +kernel
theorem dX11_init_139 : decode cX11_init 139 = .ok (.aload_n 0, 1) := by decide +kernel
theorem dX11_init_140 : decode cX11_init 140 = .ok (.sipush 784, 3) := by decide +kernel
theorem dX11_init_143 : decode cX11_init 143 = .ok (.newarray .long, 2) := by decide +kernel
theorem flw_X11_60 : flw RX11 60 12 24 (.array (.long)) := ⟨RX11, TX11, 32, tyX11, rfl, inA_X11, by decide, w_1457, tyX11_ok, nmX11, by decide +kernel, Or.inr ⟨rfl, rfl⟩⟩
theorem dX11_init_145 : decode cX11_init 145 = .ok (.putfield 60, 3) := by decide +kernel
theorem dX11_init_148 : decode cX11_init 148 = .ok (.aload_n 0, 1) := by decide +kernel
theorem dX11_init_149 : decode cX11_init 149 = .ok (.bipush 28, 2) := by decide +kernel
theorem dX11_init_151 : decode cX11_init 151 = .ok (.newarray .long, 2) := by decide +kernel
theorem flw_X11_63 : flw RX11 63 12 25 (.array (.long)) := ⟨RX11, TX11, 32, tyX11, rfl, inA_X11, by decide, w_1458, tyX11_ok, nmX11, by decide +kernel, Or.inr ⟨rfl, rfl⟩⟩
theorem dX11_init_153 : decode cX11_init 153 = .ok (.putfield 63, 3) := by decide +kernel
theorem dX11_init_156 : decode cX11_init 156 = .ok (.aload_n 0, 1) := by decide +kernel
theorem dX11_init_157 : decode cX11_init 157 = .ok (.bipush 28, 2) := by decide +kernel
theorem dX11_init_159 : decode cX11_init 159 = .ok (.newarray .int, 2) := by decide +kernel
theorem flw_X11_66 : flw RX11 66 12 26 (.array (.int)) := ⟨RX11, TX11, 32, tyX11, rfl, inA_X11, by decide, w_1459, tyX11_ok, nmX11, by decide +kernel, Or.inr ⟨rfl, rfl⟩⟩
theorem dX11_init_161 : decode cX11_init 161 = .ok (.putfield 66, 3) := by decide +kernel
theorem dX11_init_164 : decode cX11_init 164 = .ok (.aload_n 0, 1) := by decide +kernel
theorem dX11_init_165 : decode cX11_init 165 = .ok (.sipush 244, 3) := by decide +kernel
theorem dX11_init_168 : decode cX11_init 168 = .ok (.newarray .long, 2) := by decide +kernel
theorem flw_X11_69 : flw RX11 69 12 29 (.array (.long)) := ⟨RX11, TX11, 32, tyX11, rfl, inA_X11, by decide, w_1462, tyX11_ok, nmX11, by decide +kernel, Or.inr ⟨rfl, rfl⟩⟩
theorem dX11_init_170 : decode cX11_init 170 = .ok (.putfield 69, 3) := by decide +kernel
theorem dX11_init_173 : decode cX11_init 173 = .ok (.aload_n 0, 1) := by decide +kernel
theorem dX11_init_174 : decode cX11_init 174 = .ok (.bipush 80, 2) := by decide +kernel
theorem dX11_init_176 : decode cX11_init 176 = .ok (.newarray .int, 2) := by decide +kernel
theorem flw_X11_72 : flw RX11 72 12 30 (.array (.int)) := ⟨RX11, TX11, 32, tyX11, rfl, inA_X11, by decide, w_1463, tyX11_ok, nmX11, by decide +kernel, Or.inr ⟨rfl, rfl⟩⟩
theorem dX11_init_178 : decode cX11_init 178 = .ok (.putfield 72, 3) := by decide +kernel
theorem dX11_init_181 : decode cX11_init 181 = .ok (.return_, 1) := by decide +kernel
/-! ===== the start: cells that come ===== -/
/-- an object is being made at x: nothing else that was there has changed -/
def Gx (x : Nat) (τ τ1 : Nat → Nat) (f f1 : hM) : Prop := ∀ q, q ≠ x → f q ≠ none → f1 q = f q ∧ τ1 q = τ q
/-- tagged cells stay -/
def Gw (τ : Nat → Nat) (f : hM) (τ1 : Nat → Nat) (f1 : hM) : Prop := Ex τ τ1 ∧ Fr [0] τ f f1
theorem Gx.rf (x : Nat) (τ : Nat → Nat) (f : hM) : Gx x τ τ f f := fun _ _ _ => ⟨rfl, rfl⟩
theorem Gw.rf (τ : Nat → Nat) (f : hM) : Gw τ f τ f := ⟨Ex.rf τ, Fr.rf _ _ _⟩
theorem Gw.tr {τ τ1 τ2 : Nat → Nat} {f f1 f2 : hM} (h : Gw τ f τ1 f1) (h2 : Gw τ1 f1 τ2 f2) : Gw τ f τ2 f2 := ⟨h.1.tr h2.1, h.2.tr (Fr.cv h.1 h2.2 (by decide) (fun _ z => z)) (fun _ z => z) (fun _ z => z)⟩
theorem Gw.of {τ τ1 : Nat → Nat} {f f1 : hM} (h : ∀ a, τ a ≠ 0 → f1 a = f a ∧ τ1 a = τ a) : Gw τ f τ1 f1 := ⟨fun a ha => (h a ha).2, fun q hq => (h q (fun z => hq (by rw [z]; decide))).1, fun q k v h0 _ hv => hv.tr (h q h0).1⟩
theorem Gw.tg {τ τ1 : Nat → Nat} {f f1 : hM} (h : Gw τ f τ1 f1) {a tg : Nat} (ha : τ a = tg) (h0 : tg ≠ 0) : τ1 a = tg := h.1.at ha h0
theorem Gw.at {τ τ1 : Nat → Nat} {f f1 : hM} {P : va_E → Prop} (h : Gw τ f τ1 f1) {a tg : Nat} (ha : τ a = tg) (h0 : tg ≠ 0) (hp : atp f a P) : atp f1 a P := hp.fr h.2 ha (by simpa using h0)
theorem st_some {f : hM} {a : Nat} {e : va_E} (h : f a = some e) : f a ≠ none := fun z => by rw [h] at z; cases z
section St
variable {G : Nat → Nat} {τ0 τ τ1 : Nat → Nat} {f0 f f1 : hM} {x q tg : Nat} {cx e : va_E}
theorem st_new (t : TI G 9 τ f) (kx : f x = some cx) (zx : τ x = 0) (gx : Gx x τ0 τ f0 f) (nq : f q = none) (he : wf G 9 τ tg e) : ∃ τ1 f1, hu f q e = f1 ∧ TI G 9 τ1 f1 ∧ f1 x = some cx ∧ τ1 x = 0 ∧ Gx x τ0 τ1 f0 f1 ∧ Gw τ f τ1 f1 ∧ τ1 q = tg ∧ f1 q = some e := by
  have hne : x ≠ q := hne0 nq kx
  refine ⟨tu τ q tg, _, rfl, t.new nq he, hu_at kx hne, (if_neg hne).trans zx, fun a ha h0 => ?_, ⟨t.newEx nq, Fr.new (Fr.rf _ _ _) nq (t.zero nq) (by decide)⟩, tu_self _ _ _, hu_self _ _ _⟩
  obtain ⟨g1, g2⟩ := gx a ha h0
  have n : a ≠ q := fun z => h0 (by rw [← g1, z]; exact nq)
  exact ⟨(hu_ne n).trans g1, (if_neg n).trans g2⟩
theorem st_call (t : TI G 9 τ f) (kx : f x = some cx) (zx : τ x = 0) (gx : Gx x τ0 τ f0 f) (nq : f q = none) (G1 : Gx q τ τ1 (hu f q e) f1) : f1 x = some cx ∧ τ1 x = 0 ∧ Gx x τ0 τ1 f0 f1 ∧ Gw τ f τ1 f1 := by
  have hne : x ≠ q := hne0 nq kx
  have key : ∀ a, f a ≠ none → f1 a = f a ∧ τ1 a = τ a := fun a ha => by
    have n : a ≠ q := fun z => ha (by rw [z]; exact nq)
    obtain ⟨g1, g2⟩ := G1 a n (by rw [hu_ne n]; exact ha)
    exact ⟨g1.trans (hu_ne n), g2⟩
  refine ⟨(key x (st_some kx)).1.trans kx, (key x (st_some kx)).2.trans zx, fun a ha h0 => ?_, Gw.of fun a ha => ?_⟩
  · obtain ⟨g1, g2⟩ := gx a ha h0
    obtain ⟨k1, k2⟩ := key a (by rw [g1]; exact h0)
    exact ⟨k1.trans g1, k2.trans g2⟩
  · obtain ⟨z, z1, -⟩ := t a ha
    exact key a (st_some z1)
theorem st_put (t : TI G 9 τ f) (zx : τ x = 0) (gx : Gx x τ0 τ f0 f) (c : va_E) : ∃ f1, hu f x c = f1 ∧ TI G 9 τ f1 ∧ f1 x = some c ∧ Gx x τ0 τ f0 f1 ∧ Gw τ f τ f1 :=
  ⟨_, rfl, t.raw zx, hu_self _ _ _, fun a ha h0 => ⟨(hu_ne ha).trans (gx a ha h0).1, (gx a ha h0).2⟩, Ex.rf _, Fr.raw (Fr.rf _ _ _) zx (by decide)⟩
theorem st_tag (t : TI G 9 τ f) (kx : f x = some cx) (zx : τ x = 0) (gx : Gx x τ0 τ f0 f) (he : wf G 9 τ tg cx) : ∃ τ1, TI G 9 τ1 f ∧ Gx x τ0 τ1 f0 f ∧ Gw τ f τ1 f ∧ τ1 x = tg :=
  ⟨tu τ x tg, t.tag zx kx he, fun a ha h0 => ⟨(gx a ha h0).1, (if_neg ha).trans (gx a ha h0).2⟩, ⟨tuEx zx, Fr.rf _ _ _⟩, tu_self _ _ _⟩
/-- a row of rows -/
theorem st_mna (t : TI G 9 τ f) (kx : f x = some cx) (zx : τ x = 0) (gx : Gx x τ0 τ f0 f) (hn : ∀ a, q ≤ a → f a = none) {N to ti g : Nat} {ei : va_E}
    (hto : ∀ τ' : Nat → Nat, isRA G τ' g N ti (.inl (G g, N, .inr (.inr (.inr (.inr (fun i => if i < N then some (q + 1 + i) else none)))))) → wf G 9 τ' to (.inl (G g, N, .inr (.inr (.inr (.inr (fun i => if i < N then some (q + 1 + i) else none))))))) (hei : ∀ τ' : Nat → Nat, wf G 9 τ' ti ei) :
    ∃ τ1 f1, hmn f q N (.inl (G g, N, .inr (.inr (.inr (.inr (fun i => if i < N then some (q + 1 + i) else none)))))) ei = f1 ∧ TI G 9 τ1 f1 ∧ f1 x = some cx ∧ τ1 x = 0 ∧ Gx x τ0 τ1 f0 f1 ∧ Gw τ f τ1 f1 ∧ τ1 q = to := by
  have old : ∀ a, f a ≠ none → a < q := fun a ha => Nat.lt_of_not_le (fun z => ha (hn a z))
  have lx := old x (st_some kx)
  obtain ⟨τ1, hτ⟩ : ∃ z : Nat → Nat, z = fun a => if a = q then to else if q < a ∧ a ≤ q + N then ti else τ a := ⟨_, rfl⟩
  have v1 : ∀ a, a < q → τ1 a = τ a := fun a ha => by rw [hτ]; show (if a = q then to else _) = _; rw [if_neg (by omega), if_neg (by omega)]
  have v2 : τ1 q = to := by rw [hτ]; exact if_pos rfl
  have v3 : ∀ a, q < a → a ≤ q + N → τ1 a = ti := fun a h1 h2 => by rw [hτ]; show (if a = q then to else _) = _; rw [if_neg (by omega), if_pos ⟨h1, h2⟩]
  have v4 : ∀ a, q + N < a → τ1 a = τ a := fun a ha => by rw [hτ]; show (if a = q then to else _) = _; rw [if_neg (by omega), if_neg (by omega)]
  have ex : Ex τ τ1 := fun a ha => by
    obtain ⟨z, z1, -⟩ := t a ha
    exact v1 a (old a (st_some z1))
  have hm : ∀ a, a < q → ∀ eo : va_E, hmn f q N eo ei a = f a := fun a ha eo => by unfold hmn; rw [if_neg (by omega), if_neg (by omega)]
  refine ⟨τ1, _, rfl, fun a ha => ?_, (hm x lx _).trans kx, (v1 x lx).trans zx, fun a ha h0 => ?_, Gw.of fun a ha => ?_, v2⟩
  · by_cases h1 : a = q
    · subst h1
      refine ⟨_, hmn_self, ?_⟩
      rw [v2]
      exact hto τ1 ⟨_, rfl, fun j hj => ⟨a + 1 + j, if_pos hj, v3 _ (by omega) (by omega)⟩⟩
    · by_cases h2 : q < a ∧ a ≤ q + N
      · refine ⟨ei, by unfold hmn; rw [if_neg h1, if_pos h2], ?_⟩
        rw [v3 a h2.1 h2.2]
        exact hei τ1
      · by_cases h3 : a < q
        · rw [v1 a h3] at ha ⊢
          obtain ⟨z, z1, z2⟩ := t a ha
          exact ⟨z, (hm a h3 _).trans z1, wf_ext ex z2⟩
        · rw [v4 a (by omega)] at ha
          obtain ⟨z, z1, -⟩ := t a ha
          exact absurd (old a (st_some z1)) h3
  · obtain ⟨g1, g2⟩ := gx a ha h0
    have l := old a (by rw [g1]; exact h0)
    exact ⟨(hm a l _).trans g1, (v1 a l).trans g2⟩
  · obtain ⟨z, z1, -⟩ := t a ha
    have l := old a (st_some z1)
    exact ⟨hm a l _, v1 a l⟩
end St
theorem inner_int (c : ClassId) (k : Nat) : Jvm.Free.Multi.innerC c k (defaultValue .int) = vp_cell c (k, .inl (fun _ => 0)) := by
  rw [vp_cell_i]
  exact arrV_new _ _ _
theorem inner_long (c : ClassId) (k : Nat) : Jvm.Free.Multi.innerC c k (defaultValue .long) = vp_cell c (k, .inr (.inl (fun _ => 0))) := by
  rw [vp_cell_l]
  exact arrV_new _ _ _
/-- the shelves of `before` while they come: i of them are there -/
def LSh (G : Nat → Nat) (τ : Nat → Nat) (f : hM) (bf st ks : Nat) (i : Nat) (ρ : Nat → Option Nat) (sh qs : Nat → Nat) : Prop :=
  f bf = some (.inl (G 3, 12, .inr (.inr (.inr (.inr ρ))))) ∧ τ bf = 0 ∧
  (∀ j : Nat, j < i → ρ j = some (sh j) ∧ τ (sh j) = 18 ∧ τ (qs j) = 4 ∧ atp f (sh j) (fd 0 (.ref (qs j)))) ∧
  (∀ j : Nat, j < i → qs j ≠ st ∧ qs j ≠ ks) ∧ (∀ j k : Nat, j < i → k < i → j ≠ k → sh j ≠ sh k ∧ qs j ≠ qs k)
theorem LSh.step {G : Nat → Nat} {τ τ1 : Nat → Nat} {f f1 : hM} {bf st ks i q a : Nat} {ρ : Nat → Option Nat} {sh qs : Nat → Nat} {e : va_E} (h : LSh G τ f bf st ks i ρ sh qs) (t : TI G 9 τ f) (t1 : TI G 9 τ1 f1) (nq : f q = none) (G1 : Gx q τ τ1 (hu f q e) f1) (tq : τ1 q = 18) (ta : τ1 a = 4) (na : f a = none) (ka : f1 q = some (.inr (6, [.ref a, .int 0]))) (hst : τ st = 4) (hks : τ ks = 4) (k : Nat) (hk : k = i) :
    f1 bf = some (.inl (G 3, 12, .inr (.inr (.inr (.inr ρ))))) ∧ LSh G τ1 (hu f1 bf (.inl (G 3, 12, .inr (.inr (.inr (.inr (va_up ρ k (some q)))))))) bf st ks (i + 1) (va_up ρ k (some q)) (fun j => if j = i then q else sh j) (fun j => if j = i then a else qs j) := by
  subst hk
  obtain ⟨hb, zb, h1, h2, h3⟩ := h
  have key : ∀ z, f z ≠ none → f1 z = f z ∧ τ1 z = τ z := fun z hz => by
    have n : z ≠ q := fun w => hz (by rw [w]; exact nq)
    obtain ⟨g1, g2⟩ := G1 z n (by rw [hu_ne n]; exact hz)
    exact ⟨g1.trans (hu_ne n), g2⟩
  have some_of : ∀ {z tg : Nat}, τ z = tg → tg ≠ 0 → f z ≠ none := fun hz h0 => by
    obtain ⟨w, w1, -⟩ := t _ (by rw [hz]; exact h0)
    exact st_some w1
  have hb1 := (key bf (st_some hb)).1.trans hb
  have zb1 := (key bf (st_some hb)).2.trans zb
  have bq : bf ≠ q := hne0 nq hb
  have nbt : ∀ {z tg : Nat}, τ1 z = tg → tg ≠ 0 → z ≠ bf := fun hz h0 w => h0 (by rw [← hz, w]; exact zb1)
  refine ⟨hb1, hu_self _ _ _, zb1, fun j hj => ?_, fun j hj => ?_, fun j l hj hl hjl => ?_⟩
  · by_cases c : j = k
    · subst c
      refine ⟨by simp [va_up], ?_, ?_, ?_⟩
      · show τ1 (if j = j then q else sh j) = 18; rw [if_pos rfl]; exact tq
      · show τ1 (if j = j then a else qs j) = 4; rw [if_pos rfl]; exact ta
      · show atp _ (if j = j then q else sh j) (fd 0 (.ref (if j = j then a else qs j)))
        rw [if_pos rfl, if_pos rfl]
        exact ⟨_, hu_at ka bq.symm, _, _, rfl, rfl⟩
    · obtain ⟨e1, e2, e3, e4⟩ := h1 j (by omega)
      have f2 := key _ (some_of e2 (by decide))
      have f3 := key _ (some_of e3 (by decide))
      refine ⟨by simp [va_up, c, e1], ?_, ?_, ?_⟩
      · show τ1 (if j = k then q else sh j) = 18; rw [if_neg c]; exact f2.2.trans e2
      · show τ1 (if j = k then a else qs j) = 4; rw [if_neg c]; exact f3.2.trans e3
      · show atp _ (if j = k then q else sh j) (fd 0 (.ref (if j = k then a else qs j)))
        rw [if_neg c, if_neg c]
        exact (e4.tr f2.1).tr (hu_ne (nbt (f2.2.trans e2) (by decide)))
  · show (if j = k then a else qs j) ≠ st ∧ (if j = k then a else qs j) ≠ ks
    by_cases c : j = k
    · rw [if_pos c]
      exact ⟨fun w => some_of hst (by decide) (by rw [← w]; exact na), fun w => some_of hks (by decide) (by rw [← w]; exact na)⟩
    · rw [if_neg c]
      exact h2 j (by omega)
  · show (if j = k then q else sh j) ≠ (if l = k then q else sh l) ∧ (if j = k then a else qs j) ≠ (if l = k then a else qs l)
    by_cases c : j = k
    · have c2 : l ≠ k := fun w => hjl (by rw [c, w])
      obtain ⟨e1, e2, e3, e4⟩ := h1 l (by omega)
      rw [if_pos c, if_neg c2, if_pos c, if_neg c2]
      exact ⟨fun w => some_of e2 (by decide) (by rw [← w]; exact nq), fun w => some_of e3 (by decide) (by rw [← w]; exact na)⟩
    · by_cases c2 : l = k
      · obtain ⟨e1, e2, e3, e4⟩ := h1 j (by omega)
        rw [if_neg c, if_pos c2, if_neg c, if_pos c2]
        exact ⟨fun w => some_of e2 (by decide) (by rw [w]; exact nq), fun w => some_of e3 (by decide) (by rw [w]; exact na)⟩
      · rw [if_neg c, if_neg c2, if_neg c, if_neg c2]
        exact h3 j l (by omega) (by omega) hjl
/-- what a book holds when it is new -/
def BK0 (G : Nat → Nat) (τ : Nat → Nat) (f : hM) (x : Nat) (K sh qs : Nat → Nat) : Prop :=
  (K 4 = x ∧ τ (K 6) = 15 ∧ τ (K 7) = 4 ∧ τ (K 8) = 16 ∧ τ (K 9) = 4 ∧ τ (K 10) = 17) ∧
  (atp f (K 4) (fd 0 (.int 0)) ∧ atp f (K 4) (fd 1 (.ref (K 6))) ∧ atp f (K 4) (fd 2 (.ref (K 8))) ∧ atp f (K 4) (fd 3 (.ref (K 10))) ∧ atp f (K 4) (fd 4 (.int 0)) ∧ atp f (K 4) (fd 5 (.int 0)) ∧ atp f (K 6) (fd 0 (.ref (K 7))) ∧ atp f (K 6) (fd 1 (.int 0)) ∧ atp f (K 8) (fd 0 (.ref (K 9)))) ∧
  (∃ rf : Nat → Option Nat, atp f (K 10) (eqr G 3 12 rf) ∧ ∀ j : Nat, j < 12 → rf j = some (sh j)) ∧
  (∀ j : Nat, j < 12 → τ (sh j) = 18 ∧ τ (qs j) = 4 ∧ atp f (sh j) (fd 0 (.ref (qs j)))) ∧
  (K 7 ≠ K 9 ∧ ∀ j : Nat, j < 12 → qs j ≠ K 7 ∧ qs j ≠ K 9) ∧
  (∀ i j : Nat, i < 12 → j < 12 → i ≠ j → sh i ≠ sh j ∧ qs i ≠ qs j)
theorem BK0.gw {G : Nat → Nat} {τ τ1 : Nat → Nat} {f f1 : hM} {x : Nat} {K sh qs : Nat → Nat} (h : BK0 G τ f x K sh qs) (g : Gw τ f τ1 f1) (hx : τ x = 12) : BK0 G τ1 f1 x K sh qs := by
  obtain ⟨⟨a0, a1, a2, a3, a4, a5⟩, ⟨b0, b1, b2, b3, b4, b5, b6, b7, b8⟩, ⟨rf, c1, c2⟩, d, e, e2⟩ := h
  have hK : τ (K 4) = 12 := by rw [a0]; exact hx
  refine ⟨⟨a0, g.tg a1 (by decide), g.tg a2 (by decide), g.tg a3 (by decide), g.tg a4 (by decide), g.tg a5 (by decide)⟩, ⟨g.at hK (by decide) b0, g.at hK (by decide) b1, g.at hK (by decide) b2, g.at hK (by decide) b3, g.at hK (by decide) b4, g.at hK (by decide) b5, g.at a1 (by decide) b6, g.at a1 (by decide) b7, g.at a3 (by decide) b8⟩, ⟨rf, g.at a5 (by decide) c1, c2⟩, fun j hj => ?_, e, e2⟩
  obtain ⟨d1, d2, d3⟩ := d j hj
  exact ⟨g.tg d1 (by decide), g.tg d2 (by decide), g.at d1 (by decide) d3⟩
theorem gx_none {x q : Nat} {τ0 τ : Nat → Nat} {f0 f : hM} (gx : Gx x τ0 τ f0 f) (hx : q ≠ x) (nq : f q = none) : f0 q = none := Classical.byContradiction fun h => h (by rw [← (gx q hx h).1]; exact nq)
theorem hu_none {f : hM} {q a : Nat} {e : va_E} (h : hu f q e a = none) : f a = none := by
  by_cases c : a = q
  · rw [c, hu_self] at h; cases h
  · rw [hu_ne c] at h; exact h
theorem tag_ne {G : Nat → Nat} {τ : Nat → Nat} {f : hM} {a q tg : Nat} (t : TI G 9 τ f) (ha : τ a = tg) (h0 : tg ≠ 0) (nq : f q = none) : a ≠ q := fun z => by
  obtain ⟨e, e1, -⟩ := t a (by rw [ha]; exact h0)
  rw [z, nq] at e1
  cases e1
theorem st_raw {G : Nat → Nat} {τ0 τ : Nat → Nat} {f0 f : hM} {x b : Nat} {cx : va_E} (t : TI G 9 τ f) (kx : f x = some cx) (gx : Gx x τ0 τ f0 f) (zb : τ b = 0) (hb : x ≠ b) (nb : f0 b = none) (e : va_E) : ∃ f1, hu f b e = f1 ∧ TI G 9 τ f1 ∧ f1 x = some cx ∧ Gx x τ0 τ f0 f1 ∧ Gw τ f τ f1 :=
  ⟨_, rfl, t.raw zb, hu_at kx hb, fun a ha h0 => ⟨(hu_ne (fun z => h0 (by rw [z]; exact nb))).trans (gx a ha h0).1, (gx a ha h0).2⟩, Ex.rf _, Fr.raw (Fr.rf _ _ _) zb (by decide)⟩
theorem gw_call {G : Nat → Nat} {τ τ1 : Nat → Nat} {f f1 : hM} {q : Nat} {e : va_E} (t : TI G 9 τ f) (nq : f q = none) (G1 : Gx q τ τ1 (hu f q e) f1) : Gw τ f τ1 f1 := Gw.of fun a ha => by
  obtain ⟨z, z1, -⟩ := t a ha
  have n : a ≠ q := fun w => by rw [w, nq] at z1; cases z1
  obtain ⟨g1, g2⟩ := G1 a n (by rw [hu_ne n]; exact st_some z1)
  exact ⟨g1.trans (hu_ne n), g2⟩
theorem XD.start {G : Nat → Nat} {τ : Nat → Nat} {f : hM} {K sh qs : Nat → Nat} (t : TI G 9 τ f) (X : XK G τ f K sh qs) (h1 : atp f (K 1) (fd 0 (.int 0))) (h2 : atp f (K 4) (fd 0 (.int 0))) (h3 : atp f (K 4) (fd 4 (.int 0))) (h4 : atp f (K 4) (fd 5 (.int 0))) (h5 : atp f (K 6) (fd 1 (.int 0))) (B : Nat → Int) (rb rk ri : Nat → Int32) (h6 : (rb 80).toInt = 0) : XD G τ f K sh qs 0 0 0 B rb rk ri := by
  obtain ⟨⟨a0, a1, a2, a3, a4, a5, a6, a7, a8, a9, a10, a11⟩, -⟩ := X
  obtain ⟨rt, hrt⟩ := t.ia a2 (by decide) wf_13
  obtain ⟨ρ, hρ⟩ := ro_get t a7
  refine ⟨0, 0, 0, 0, rt, ⟨⟨by decide, by decide⟩, ⟨by decide, by decide⟩, ⟨by decide, by decide⟩, ⟨by decide, by decide⟩⟩, ⟨rfl, rfl, rfl⟩, ⟨h1, h2, h3, h4, hrt⟩, fun k hk => absurd hk (by omega), ⟨0, ρ, ⟨by decide, by decide⟩, h5, hρ, h6.symm, fun j hj => absurd hj (by have n_ : (0 : Int32).toInt = 0 := rfl; omega), fun j hj => absurd hj (by have n_ : (0 : Int32).toInt = 0 := rfl; omega)⟩, fun z => absurd rfl z, fun a ha => absurd ha (by omega)⟩
theorem MD.start {G : Nat → Nat} {τ : Nat → Nat} {f : hM} {M : Nat → Nat} (t : TI G 9 τ f) (m : MK τ f M) (h1 : atp f (M 0) (fd 2 (.int 0))) (h2 : atp f (M 0) (fd 10 (.int 0))) (h3 : atp f (M 0) (fd 11 (.int 0))) (h4 : atp f (M 2) (eqc (.inl (G 1, 81, .inl (fun _ => 0))))) (B : Nat → Int) : ∃ rk ri, MD G f M 0 0 0 B (fun _ => 0) rk ri := by
  obtain ⟨⟨p0, p1, p2, p3, p4, p5⟩, -⟩ := m
  obtain ⟨e, e1, e2⟩ := t.at p1 (by decide)
  obtain ⟨rt, rfl, -⟩ := wf_61 _ e2
  obtain ⟨ri, hri⟩ := t.ia p3 (by decide) wf_64
  obtain ⟨rk, hrk⟩ := t.ia p4 (by decide) wf_65
  exact ⟨rk, ri, 0, 0, 0, rt, ⟨⟨by decide, by decide⟩, ⟨by decide, by decide⟩, ⟨by decide, by decide⟩⟩, ⟨rfl, rfl, rfl⟩, ⟨h1, h2, h3⟩, ⟨⟨_, e1, rfl⟩, h4, hri, hrk⟩, fun k hk => absurd hk (by omega)⟩
theorem LSh.put {G : Nat → Nat} {τ : Nat → Nat} {f f1 : hM} {bf st ks i x : Nat} {ρ : Nat → Option Nat} {sh qs : Nat → Nat} {c : va_E} (h : LSh G τ f bf st ks i ρ sh qs) (ef : hu f x c = f1) (zx : τ x = 0) (hx : x ≠ bf) : LSh G τ f1 bf st ks i ρ sh qs := by
  obtain ⟨hb, zb, h1, h2, h3⟩ := h
  refine ⟨by rw [← ef]; exact hu_at hb hx.symm, zb, fun j hj => ?_, h2, h3⟩
  obtain ⟨e1, e2, e3, e4⟩ := h1 j hj
  refine ⟨e1, e2, e3, e4.tr ?_⟩
  rw [← ef]
  exact hu_ne (fun z => by rw [z, zx] at e2; cases e2)
set_option maxRecDepth 100000 in
set_option maxHeartbeats 4000000 in
theorem k_X7_init (l : Launch) (D : va_G) (G : Nat → Nat) (b0 : Nat) {τ0 : Nat → Nat} {f0 : hM} (t : TI G 9 τ0 f0) (x : Nat) (kx : f0 x = some (.inr (8, [.int 0, .null, .null, .int 0, .int 0, .int 0, .int 0]))) (zx : τ0 x = 0) : mV l yX7_init cX7_init 1 { frames := 1, cells := 2, slots := 208, locals := 12 } D G b0 f0 [.ref x] (fun f1 => ∃ τ1, TI G 9 τ1 f1 ∧ Gx x τ0 τ1 f0 f1 ∧ τ1 x = 11 ∧ ∃ a b : Nat, f1 x = some (.inr (8, [.int 0, .ref a, .ref b, .int 0, .int 0, .int 0, .int 0])) ∧ τ1 a = 13 ∧ τ1 b = 14) := by
  refine met_of (own := RX7) (by decide) rfl (Nat.le_of_ble_eq_true rfl) ?_
  intro p e s m below meth c ls C hr hini hl h
  have hl : lv_has ls 1 [(0, .ref x)] := hl
  obtain ⟨hx, hb, hml, hown, hts, hE0, hlk⟩ := id C
  have gx := Gx.rf x τ0 f0
  refine lv_aload_n hx hb dX7_init_0 rfl (lv_at hl 0 rfl) ?_
  refine W.objInit hx hb hown (hts _ w_137) (hts _ w_130) (hts _ w_131) rfl (hl.1.trans hml.symm) rfl dX7_init_1 (Nat.le_of_ble_eq_true rfl) (Nat.le_of_ble_eq_true rfl) ?_
  show W _ _ _ _ _ _ _ _ _ _ _ _ _ _ _ (F0 m 4 ls [])
  refine lv_aload_n hx hb dX7_init_4 rfl (lv_at hl 0 rfl) ?_
  refine lv_sipush (v := 200) hx hb dX7_init_5 (by decide) ?_
  refine q_newa C h (atype := .int) 1 rfl rfl rfl w_161 (a0 := (200, .inl (fun _ => 0))) (fun _ => rfl) (by decide) (N' := 200) (by decide) (Nat.le_of_ble_eq_true rfl) (Nat.le_of_ble_eq_true rfl) (Nat.le_of_ble_eq_true rfl) dX7_init_8 (fun q_1 H nq_1 h => ?_)
  obtain ⟨τ_3, f_2, ef_, t, kx, zx, gx, gw_, tq_1, kq_1⟩ := st_new (tg := 13) (e := .inl (G 1, 200, .inl (fun _ => 0))) t kx zx gx nq_1 (fw_13 _ ⟨_, rfl, fun _ => ⟨by decide, by decide⟩⟩)
  rw [ef_] at h
  have bq_1 := Gw.rf τ_3 f_2
  refine q_put C h kx flw_X7_11 (Or.inl hini) (v := .ref q_1) rfl rfl (Nat.le_of_ble_eq_true rfl) dX7_init_10 (fun H locs h => ?_)
  have h : hw D b0 s.heap (hu f_2 x (.inr (8, [.int 0, .ref q_1, .null, .int 0, .int 0, .int 0, .int 0]))) H locs := h
  obtain ⟨f_4, ef_, t, kx, gx, gw_⟩ := st_put t zx gx (.inr (8, [.int 0, .ref q_1, .null, .int 0, .int 0, .int 0, .int 0]))
  rw [ef_] at h
  have bq_1 := bq_1.tr gw_
  refine lv_aload_n hx hb dX7_init_13 rfl (lv_at hl 0 rfl) ?_
  refine lv_bipush (v := 8) hx hb dX7_init_14 (by decide) ?_
  refine q_newa C h (atype := .int) 1 rfl rfl rfl w_161 (a0 := (8, .inl (fun _ => 0))) (fun _ => rfl) (by decide) (N' := 8) (by decide) (Nat.le_of_ble_eq_true rfl) (Nat.le_of_ble_eq_true rfl) (Nat.le_of_ble_eq_true rfl) dX7_init_16 (fun q_5 H nq_5 h => ?_)
  obtain ⟨τ_7, f_6, ef_, t, kx, zx, gx, gw_, tq_5, kq_5⟩ := st_new (tg := 14) (e := .inl (G 1, 8, .inl (fun _ => 0))) t kx zx gx nq_5 (fw_14 _ ⟨_, rfl, fun _ => ⟨by decide, by decide⟩⟩)
  rw [ef_] at h
  have bq_1 := bq_1.tr gw_
  have bq_5 := Gw.rf τ_7 f_6
  refine q_put C h kx flw_X7_15 (Or.inl hini) (v := .ref q_5) rfl rfl (Nat.le_of_ble_eq_true rfl) dX7_init_18 (fun H locs h => ?_)
  have h : hw D b0 s.heap (hu f_6 x (.inr (8, [.int 0, .ref q_1, .ref q_5, .int 0, .int 0, .int 0, .int 0]))) H locs := h
  obtain ⟨f_8, ef_, t, kx, gx, gw_⟩ := st_put t zx gx (.inr (8, [.int 0, .ref q_1, .ref q_5, .int 0, .int 0, .int 0, .int 0]))
  rw [ef_] at h
  have bq_1 := bq_1.tr gw_
  have bq_5 := bq_5.tr gw_
  have wf_ : wf G 9 τ_7 11 (.inr (8, [.int 0, .ref q_1, .ref q_5, .int 0, .int 0, .int 0, .int 0])) := fw_11 _ ⟨_, rfl, rfl, fun k_ T_ hk_ => by
    match k_, hk_ with
    | 0, hk_ => cases hk_; exact ⟨_, rfl, _, rfl, ⟨by decide, by decide⟩⟩
    | 1, hk_ => cases hk_; exact ⟨_, rfl, _, rfl, bq_1.tg tq_1 (by decide)⟩
    | 2, hk_ => cases hk_; exact ⟨_, rfl, _, rfl, bq_5.tg tq_5 (by decide)⟩
    | 3, hk_ => cases hk_; exact ⟨_, rfl, _, rfl, ⟨by decide, by decide⟩⟩
    | 4, hk_ => cases hk_; exact ⟨_, rfl, _, rfl, ⟨by decide, by decide⟩⟩
    | 5, hk_ => cases hk_; exact ⟨_, rfl, _, rfl, ⟨by decide, by decide⟩⟩
    | 6, hk_ => cases hk_; exact ⟨_, rfl, _, rfl, ⟨by decide, by decide⟩⟩
    | k_ + 7, hk_ => simp at hk_⟩
  obtain ⟨τe_, t, gx, gw_, tx_⟩ := st_tag t kx zx gx wf_
  have bq_1 := bq_1.tr gw_
  have bq_5 := bq_5.tr gw_
  exact q_vret C h hr (⟨_, t, gx, tx_, _, _, kx, bq_1.tg tq_1 (by decide), bq_5.tg tq_5 (by decide)⟩) (Nat.le_of_ble_eq_true rfl) (Nat.le_of_ble_eq_true rfl) dX7_init_21
set_option maxRecDepth 100000 in
set_option maxHeartbeats 4000000 in
theorem k_X5_init (l : Launch) (D : va_G) (G : Nat → Nat) (b0 : Nat) {τ0 : Nat → Nat} {f0 : hM} (t : TI G 9 τ0 f0) (x : Nat) (kx : f0 x = some (.inr (6, [.null, .int 0]))) (zx : τ0 x = 0) (tg : Nat) (hT : ∀ (τ_ : Nat → Nat) (e_ : va_E), wo τ_ 6 [(2, 4, 0), (0, 0, 8)] e_ → wf G 9 τ_ tg e_) : mV l yX5_init cX5_init 1 { frames := 1, cells := 1, slots := 8, locals := 12 } D G b0 f0 [.ref x] (fun f1 => ∃ τ1, TI G 9 τ1 f1 ∧ Gx x τ0 τ1 f0 f1 ∧ τ1 x = tg ∧ ∃ a : Nat, f0 a = none ∧ f1 x = some (.inr (6, [.ref a, .int 0])) ∧ τ1 a = 4) := by
  refine met_of (own := RX5) (by decide) rfl (Nat.le_of_ble_eq_true rfl) ?_
  intro p e s m below meth c ls C hr hini hl h
  have hl : lv_has ls 1 [(0, .ref x)] := hl
  obtain ⟨hx, hb, hml, hown, hts, hE0, hlk⟩ := id C
  have gx := Gx.rf x τ0 f0
  refine lv_aload_n hx hb dX5_init_0 rfl (lv_at hl 0 rfl) ?_
  refine W.objInit hx hb hown (hts _ w_173) (hts _ w_130) (hts _ w_131) rfl (hl.1.trans hml.symm) rfl dX5_init_1 (Nat.le_of_ble_eq_true rfl) (Nat.le_of_ble_eq_true rfl) ?_
  show W _ _ _ _ _ _ _ _ _ _ _ _ _ _ _ (F0 m 4 ls [])
  refine lv_aload_n hx hb dX5_init_4 rfl (lv_at hl 0 rfl) ?_
  refine lv_bipush (v := 8) hx hb dX5_init_5 (by decide) ?_
  refine q_newq C h 4 rfl w_174 C.2.2.2.2.2.1.2.2.2.2.2.1 (by decide) (N' := 8) (by decide) (Nat.le_of_ble_eq_true rfl) (Nat.le_of_ble_eq_true rfl) (Nat.le_of_ble_eq_true rfl) dX5_init_7 (fun q_9 H nq_9 h => ?_)
  have sq_9 := nq_9
  obtain ⟨τ_11, f_10, ef_, t, kx, zx, gx, gw_, tq_9, kq_9⟩ := st_new (tg := 4) (e := .inl (G 4, 8, .inr (.inr (.inr (.inr (fun _ => none)))))) t kx zx gx nq_9 (fw_4 _ ⟨_, rfl, fun _ _ z_ => by cases z_⟩)
  rw [ef_] at h
  have bq_9 := Gw.rf τ_11 f_10
  refine q_put C h kx flw_X5_11 (Or.inl hini) (v := .ref q_9) rfl rfl (Nat.le_of_ble_eq_true rfl) dX5_init_10 (fun H locs h => ?_)
  have h : hw D b0 s.heap (hu f_10 x (.inr (6, [.ref q_9, .int 0]))) H locs := h
  obtain ⟨f_12, ef_, t, kx, gx, gw_⟩ := st_put t zx gx (.inr (6, [.ref q_9, .int 0]))
  rw [ef_] at h
  have bq_9 := bq_9.tr gw_
  have wf_ : wf G 9 τ_11 tg (.inr (6, [.ref q_9, .int 0])) := hT _ _ ⟨_, rfl, rfl, fun k_ T_ hk_ => by
    match k_, hk_ with
    | 0, hk_ => cases hk_; exact ⟨_, rfl, _, rfl, bq_9.tg tq_9 (by decide)⟩
    | 1, hk_ => cases hk_; exact ⟨_, rfl, _, rfl, ⟨by decide, by decide⟩⟩
    | k_ + 2, hk_ => simp at hk_⟩
  obtain ⟨τe_, t, gx, gw_, tx_⟩ := st_tag t kx zx gx wf_
  have bq_9 := bq_9.tr gw_
  exact q_vret C h hr (⟨_, t, gx, tx_, _, sq_9, kx, bq_9.tg tq_9 (by decide)⟩) (Nat.le_of_ble_eq_true rfl) (Nat.le_of_ble_eq_true rfl) dX5_init_13
set_option maxRecDepth 100000 in
set_option maxHeartbeats 4000000 in
theorem k_X1_init (l : Launch) (D : va_G) (G : Nat → Nat) (b0 : Nat) {τ0 : Nat → Nat} {f0 : hM} (t : TI G 9 τ0 f0) (x : Nat) (kx : f0 x = some (.inr (2, [.int 0, .int 0, .int 0, .int 0]))) (zx : τ0 x = 0) (tg : Nat) (hT : ∀ (τ_ : Nat → Nat) (e_ : va_E), wo τ_ 2 [(0, (-60), 69), (0, (-60), 69), (0, (-60), 69), (0, (-60), 69)] e_ → wf G 9 τ_ tg e_) : mV l yX1_init cX1_init 1 { frames := 1, cells := 0, slots := 0, locals := 12 } D G b0 f0 [.ref x] (fun f1 => ∃ τ1, TI G 9 τ1 f1 ∧ Gx x τ0 τ1 f0 f1 ∧ τ1 x = tg ∧ f1 x = some (.inr (2, [.int 0, .int 0, .int 0, .int 0]))) := by
  refine met_of (own := RX1) (by decide) rfl (Nat.le_of_ble_eq_true rfl) ?_
  intro p e s m below meth c ls C hr hini hl h
  have hl : lv_has ls 1 [(0, .ref x)] := hl
  obtain ⟨hx, hb, hml, hown, hts, hE0, hlk⟩ := id C
  have gx := Gx.rf x τ0 f0
  refine lv_aload_n hx hb dX1_init_0 rfl (lv_at hl 0 rfl) ?_
  refine W.objInit hx hb hown (hts _ w_217) (hts _ w_130) (hts _ w_131) rfl (hl.1.trans hml.symm) rfl dX1_init_1 (Nat.le_of_ble_eq_true rfl) (Nat.le_of_ble_eq_true rfl) ?_
  show W _ _ _ _ _ _ _ _ _ _ _ _ _ _ _ (F0 m 4 ls [])
  have wf_ : wf G 9 τ0 tg (.inr (2, [.int 0, .int 0, .int 0, .int 0])) := hT _ _ ⟨_, rfl, rfl, fun k_ T_ hk_ => by
    match k_, hk_ with
    | 0, hk_ => cases hk_; exact ⟨_, rfl, _, rfl, ⟨by decide, by decide⟩⟩
    | 1, hk_ => cases hk_; exact ⟨_, rfl, _, rfl, ⟨by decide, by decide⟩⟩
    | 2, hk_ => cases hk_; exact ⟨_, rfl, _, rfl, ⟨by decide, by decide⟩⟩
    | 3, hk_ => cases hk_; exact ⟨_, rfl, _, rfl, ⟨by decide, by decide⟩⟩
    | k_ + 4, hk_ => simp at hk_⟩
  obtain ⟨τe_, t, gx, gw_, tx_⟩ := st_tag t kx zx gx wf_
  exact q_vret C h hr (⟨_, t, gx, tx_, kx⟩) (Nat.le_of_ble_eq_true rfl) (Nat.le_of_ble_eq_true rfl) dX1_init_4
set_option maxRecDepth 100000 in
set_option maxHeartbeats 4000000 in
theorem k_X8_init (l : Launch) (D : va_G) (G : Nat → Nat) (b0 : Nat) {τ0 : Nat → Nat} {f0 : hM} (t : TI G 9 τ0 f0) (x : Nat) (kx : f0 x = some (.inr (9, [.null, .null]))) (zx : τ0 x = 0) : mV l yX8_init cX8_init 1 { frames := 1, cells := 2, slots := 80, locals := 12 } D G b0 f0 [.ref x] (fun f1 => ∃ τ1, TI G 9 τ1 f1 ∧ Gx x τ0 τ1 f0 f1 ∧ τ1 x = 35 ∧ True) := by
  refine met_of (own := RX8) (by decide) rfl (Nat.le_of_ble_eq_true rfl) ?_
  intro p e s m below meth c ls C hr hini hl h
  have hl : lv_has ls 1 [(0, .ref x)] := hl
  obtain ⟨hx, hb, hml, hown, hts, hE0, hlk⟩ := id C
  have gx := Gx.rf x τ0 f0
  refine lv_aload_n hx hb dX8_init_0 rfl (lv_at hl 0 rfl) ?_
  refine W.objInit hx hb hown (hts _ w_296) (hts _ w_130) (hts _ w_131) rfl (hl.1.trans hml.symm) rfl dX8_init_1 (Nat.le_of_ble_eq_true rfl) (Nat.le_of_ble_eq_true rfl) ?_
  show W _ _ _ _ _ _ _ _ _ _ _ _ _ _ _ (F0 m 4 ls [])
  refine lv_aload_n hx hb dX8_init_4 rfl (lv_at hl 0 rfl) ?_
  refine lv_bipush (v := 40) hx hb dX8_init_5 (by decide) ?_
  refine q_newa C h (atype := .int) 1 rfl rfl rfl w_161 (a0 := (40, .inl (fun _ => 0))) (fun _ => rfl) (by decide) (N' := 40) (by decide) (Nat.le_of_ble_eq_true rfl) (Nat.le_of_ble_eq_true rfl) (Nat.le_of_ble_eq_true rfl) dX8_init_7 (fun q_13 H nq_13 h => ?_)
  obtain ⟨τ_15, f_14, ef_, t, kx, zx, gx, gw_, tq_13, kq_13⟩ := st_new (tg := 36) (e := .inl (G 1, 40, .inl (fun _ => 0))) t kx zx gx nq_13 (fw_36 _ ⟨_, rfl, fun _ => ⟨by decide, by decide⟩⟩)
  rw [ef_] at h
  have bq_13 := Gw.rf τ_15 f_14
  refine q_put C h kx flw_X8_11 (Or.inl hini) (v := .ref q_13) rfl rfl (Nat.le_of_ble_eq_true rfl) dX8_init_9 (fun H locs h => ?_)
  have h : hw D b0 s.heap (hu f_14 x (.inr (9, [.ref q_13, .null]))) H locs := h
  obtain ⟨f_16, ef_, t, kx, gx, gw_⟩ := st_put t zx gx (.inr (9, [.ref q_13, .null]))
  rw [ef_] at h
  have bq_13 := bq_13.tr gw_
  refine lv_aload_n hx hb dX8_init_12 rfl (lv_at hl 0 rfl) ?_
  refine lv_bipush (v := 40) hx hb dX8_init_13 (by decide) ?_
  refine q_newa C h (atype := .int) 1 rfl rfl rfl w_161 (a0 := (40, .inl (fun _ => 0))) (fun _ => rfl) (by decide) (N' := 40) (by decide) (Nat.le_of_ble_eq_true rfl) (Nat.le_of_ble_eq_true rfl) (Nat.le_of_ble_eq_true rfl) dX8_init_15 (fun q_17 H nq_17 h => ?_)
  obtain ⟨τ_19, f_18, ef_, t, kx, zx, gx, gw_, tq_17, kq_17⟩ := st_new (tg := 80) (e := .inl (G 1, 40, .inl (fun _ => 0))) t kx zx gx nq_17 (fw_80 _ ⟨_, rfl, fun _ => ⟨by decide, by decide⟩⟩)
  rw [ef_] at h
  have bq_13 := bq_13.tr gw_
  have bq_17 := Gw.rf τ_19 f_18
  refine q_put C h kx flw_X8_15 (Or.inl hini) (v := .ref q_17) rfl rfl (Nat.le_of_ble_eq_true rfl) dX8_init_17 (fun H locs h => ?_)
  have h : hw D b0 s.heap (hu f_18 x (.inr (9, [.ref q_13, .ref q_17]))) H locs := h
  obtain ⟨f_20, ef_, t, kx, gx, gw_⟩ := st_put t zx gx (.inr (9, [.ref q_13, .ref q_17]))
  rw [ef_] at h
  have bq_13 := bq_13.tr gw_
  have bq_17 := bq_17.tr gw_
  have wf_ : wf G 9 τ_19 35 (.inr (9, [.ref q_13, .ref q_17])) := fw_35 _ ⟨_, rfl, rfl, fun k_ T_ hk_ => by
    match k_, hk_ with
    | 0, hk_ => cases hk_; exact ⟨_, rfl, _, rfl, bq_13.tg tq_13 (by decide)⟩
    | 1, hk_ => cases hk_; exact ⟨_, rfl, _, rfl, bq_17.tg tq_17 (by decide)⟩
    | k_ + 2, hk_ => simp at hk_⟩
  obtain ⟨τe_, t, gx, gw_, tx_⟩ := st_tag t kx zx gx wf_
  have bq_13 := bq_13.tr gw_
  have bq_17 := bq_17.tr gw_
  exact q_vret C h hr (⟨_, t, gx, tx_, trivial⟩) (Nat.le_of_ble_eq_true rfl) (Nat.le_of_ble_eq_true rfl) dX8_init_20
set_option maxRecDepth 100000 in
set_option maxHeartbeats 4000000 in
theorem k_X9_init (l : Launch) (D : va_G) (G : Nat → Nat) (b0 : Nat) {τ0 : Nat → Nat} {f0 : hM} (t : TI G 9 τ0 f0) (x : Nat) (kx : f0 x = some (.inr (10, [.null, .int 0, .int 0, .int 0]))) (zx : τ0 x = 0) : mV l yX9_init cX9_init 1 { frames := 1, cells := 12, slots := 4862, locals := 12 } D G b0 f0 [.ref x] (fun f1 => ∃ τ1, TI G 9 τ1 f1 ∧ Gx x τ0 τ1 f0 f1 ∧ τ1 x = 30 ∧ True) := by
  refine met_of (own := RX9) (by decide) rfl (Nat.le_of_ble_eq_true rfl) ?_
  intro p e s m below meth c ls C hr hini hl h
  have hl : lv_has ls 1 [(0, .ref x)] := hl
  obtain ⟨hx, hb, hml, hown, hts, hE0, hlk⟩ := id C
  have gx := Gx.rf x τ0 f0
  refine lv_aload_n hx hb dX9_init_0 rfl (lv_at hl 0 rfl) ?_
  refine W.objInit hx hb hown (hts _ w_275) (hts _ w_130) (hts _ w_131) rfl (hl.1.trans hml.symm) rfl dX9_init_1 (Nat.le_of_ble_eq_true rfl) (Nat.le_of_ble_eq_true rfl) ?_
  show W _ _ _ _ _ _ _ _ _ _ _ _ _ _ _ (F0 m 4 ls [])
  refine lv_aload_n hx hb dX9_init_4 rfl (lv_at hl 0 rfl) ?_
  refine lv_bipush (v := 11) hx hb dX9_init_5 (by decide) ?_
  refine lv_sipush (v := 441) hx hb dX9_init_7 (by decide) ?_
  refine q_mna C h (ty := .int) (cA := G 5) (cI := G 1) 5 1 rfl (fun z => z) (hE0.1.2 1 _ rfl).2 w_276 hE0.2.2.2.2.2.2.1 w_161 (z := (441, .inl (fun _ => 0))) (by decide) (by decide) (N' := 11) (K' := 441) (by decide) (by decide) (Nat.le_of_ble_eq_true rfl) (Nat.le_of_ble_eq_true rfl) (Nat.le_of_ble_eq_true rfl) rfl rfl (Nat.le_of_ble_eq_true rfl) (Nat.le_of_ble_eq_true rfl) (fun c => inner_int c 441) dX9_init_10 (fun q_21 H nq_21 h => ?_)
  obtain ⟨τ_23, f_22, ef_, t, kx, zx, gx, gw_, tq_21⟩ := st_mna (N := 11) (to := 31) (ti := 32) (g := 5) (ei := .inl (G 1, 441, .inl (fun _ => 0))) t kx zx gx nq_21 (fun τ_ h_ => fw_31 _ h_) (fun τ_ => (fw_32 _ ⟨_, rfl, fun _ => ⟨by decide, by decide⟩⟩))
  rw [ef_] at h
  have bq_21 := Gw.rf τ_23 f_22
  refine q_put C h kx flw_X9_13 (Or.inl hini) (v := .ref q_21) rfl rfl (Nat.le_of_ble_eq_true rfl) dX9_init_14 (fun H locs h => ?_)
  have h : hw D b0 s.heap (hu f_22 x (.inr (10, [.ref q_21, .int 0, .int 0, .int 0]))) H locs := h
  obtain ⟨f_24, ef_, t, kx, gx, gw_⟩ := st_put t zx gx (.inr (10, [.ref q_21, .int 0, .int 0, .int 0]))
  rw [ef_] at h
  have bq_21 := bq_21.tr gw_
  have wf_ : wf G 9 τ_23 30 (.inr (10, [.ref q_21, .int 0, .int 0, .int 0])) := fw_30 _ ⟨_, rfl, rfl, fun k_ T_ hk_ => by
    match k_, hk_ with
    | 0, hk_ => cases hk_; exact ⟨_, rfl, _, rfl, bq_21.tg tq_21 (by decide)⟩
    | 1, hk_ => cases hk_; exact ⟨_, rfl, _, rfl, ⟨by decide, by decide⟩⟩
    | 2, hk_ => cases hk_; exact ⟨_, rfl, _, rfl, ⟨by decide, by decide⟩⟩
    | 3, hk_ => cases hk_; exact ⟨_, rfl, _, rfl, ⟨by decide, by decide⟩⟩
    | k_ + 4, hk_ => simp at hk_⟩
  obtain ⟨τe_, t, gx, gw_, tx_⟩ := st_tag t kx zx gx wf_
  have bq_21 := bq_21.tr gw_
  exact q_vret C h hr (⟨_, t, gx, tx_, trivial⟩) (Nat.le_of_ble_eq_true rfl) (Nat.le_of_ble_eq_true rfl) dX9_init_17
set_option maxRecDepth 100000 in
set_option maxHeartbeats 4000000 in
theorem k_X4_init (l : Launch) (D : va_G) (G : Nat → Nat) (b0 : Nat) {τ0 : Nat → Nat} {f0 : hM} (t : TI G 9 τ0 f0) (x : Nat) (kx : f0 x = some (.inr (5, [.null, .int 0, .int 0, .int 0]))) (zx : τ0 x = 0) : mV l yX4_init cX4_init 1 { frames := 1, cells := 33, slots := 928, locals := 12 } D G b0 f0 [.ref x] (fun f1 => ∃ τ1, TI G 9 τ1 f1 ∧ Gx x τ0 τ1 f0 f1 ∧ τ1 x = 40 ∧ True) := by
  refine met_of (own := RX4) (by decide) rfl (Nat.le_of_ble_eq_true rfl) ?_
  intro p e s m below meth c ls C hr hini hl h
  have hl : lv_has ls 1 [(0, .ref x)] := hl
  obtain ⟨hx, hb, hml, hown, hts, hE0, hlk⟩ := id C
  have gx := Gx.rf x τ0 f0
  refine lv_aload_n hx hb dX4_init_0 rfl (lv_at hl 0 rfl) ?_
  refine W.objInit hx hb hown (hts _ w_311) (hts _ w_130) (hts _ w_131) rfl (hl.1.trans hml.symm) rfl dX4_init_1 (Nat.le_of_ble_eq_true rfl) (Nat.le_of_ble_eq_true rfl) ?_
  show W _ _ _ _ _ _ _ _ _ _ _ _ _ _ _ (F0 m 4 ls [])
  refine lv_aload_n hx hb dX4_init_4 rfl (lv_at hl 0 rfl) ?_
  refine lv_bipush (v := 32) hx hb dX4_init_5 (by decide) ?_
  refine lv_bipush (v := 28) hx hb dX4_init_7 (by decide) ?_
  refine q_mna C h (ty := .long) (cA := G 6) (cI := G 2) 6 2 rfl (fun z => z) (hE0.1.2 2 _ rfl).2 w_312 hE0.2.2.2.2.2.2.2.1 w_235 (z := (28, .inr (.inl (fun _ => 0)))) (by decide) (by decide) (N' := 32) (K' := 28) (by decide) (by decide) (Nat.le_of_ble_eq_true rfl) (Nat.le_of_ble_eq_true rfl) (Nat.le_of_ble_eq_true rfl) rfl rfl (Nat.le_of_ble_eq_true rfl) (Nat.le_of_ble_eq_true rfl) (fun c => inner_long c 28) dX4_init_9 (fun q_25 H nq_25 h => ?_)
  obtain ⟨τ_27, f_26, ef_, t, kx, zx, gx, gw_, tq_25⟩ := st_mna (N := 32) (to := 41) (ti := 42) (g := 6) (ei := .inl (G 2, 28, .inr (.inl (fun _ => 0)))) t kx zx gx nq_25 (fun τ_ h_ => fw_41 _ h_) (fun τ_ => (fw_42 _ ⟨_, rfl⟩))
  rw [ef_] at h
  have bq_25 := Gw.rf τ_27 f_26
  refine q_put C h kx flw_X4_13 (Or.inl hini) (v := .ref q_25) rfl rfl (Nat.le_of_ble_eq_true rfl) dX4_init_13 (fun H locs h => ?_)
  have h : hw D b0 s.heap (hu f_26 x (.inr (5, [.ref q_25, .int 0, .int 0, .int 0]))) H locs := h
  obtain ⟨f_28, ef_, t, kx, gx, gw_⟩ := st_put t zx gx (.inr (5, [.ref q_25, .int 0, .int 0, .int 0]))
  rw [ef_] at h
  have bq_25 := bq_25.tr gw_
  have wf_ : wf G 9 τ_27 40 (.inr (5, [.ref q_25, .int 0, .int 0, .int 0])) := fw_40 _ ⟨_, rfl, rfl, fun k_ T_ hk_ => by
    match k_, hk_ with
    | 0, hk_ => cases hk_; exact ⟨_, rfl, _, rfl, bq_25.tg tq_25 (by decide)⟩
    | 1, hk_ => cases hk_; exact ⟨_, rfl, _, rfl, ⟨by decide, by decide⟩⟩
    | 2, hk_ => cases hk_; exact ⟨_, rfl, _, rfl, ⟨by decide, by decide⟩⟩
    | 3, hk_ => cases hk_; exact ⟨_, rfl, _, rfl, ⟨by decide, by decide⟩⟩
    | k_ + 4, hk_ => simp at hk_⟩
  obtain ⟨τe_, t, gx, gw_, tx_⟩ := st_tag t kx zx gx wf_
  have bq_25 := bq_25.tr gw_
  exact q_vret C h hr (⟨_, t, gx, tx_, trivial⟩) (Nat.le_of_ble_eq_true rfl) (Nat.le_of_ble_eq_true rfl) dX4_init_16
set_option maxRecDepth 100000 in
set_option maxHeartbeats 4000000 in
theorem k_X2_init (l : Launch) (D : va_G) (G : Nat → Nat) (b0 : Nat) {τ0 : Nat → Nat} {f0 : hM} (t : TI G 9 τ0 f0) (x : Nat) (kx : f0 x = some (.inr (3, [.null, .null, .null, .null, .null, .null, .int 0, .int 0, .int 0, .int 0, .int 0]))) (zx : τ0 x = 0) : mV l yX2_init cX2_init 1 { frames := 2, cells := 6, slots := 30282, locals := 32 } D G b0 f0 [.ref x] (fun f1 => ∃ τ1, TI G 9 τ1 f1 ∧ Gx x τ0 τ1 f0 f1 ∧ τ1 x = 20 ∧ ∃ rq mq : Nat, GJ τ1 f1 x rq mq) := by
  refine met_of (own := RX2) (by decide) rfl (Nat.le_of_ble_eq_true rfl) ?_
  intro p e s m below meth c ls C hr hini hl h
  have hl : lv_has ls 1 [(0, .ref x)] := hl
  obtain ⟨hx, hb, hml, hown, hts, hE0, hlk⟩ := id C
  have gx := Gx.rf x τ0 f0
  refine lv_aload_n hx hb dX2_init_0 rfl (lv_at hl 0 rfl) ?_
  refine W.objInit hx hb hown (hts _ w_211) (hts _ w_130) (hts _ w_131) rfl (hl.1.trans hml.symm) rfl dX2_init_1 (Nat.le_of_ble_eq_true rfl) (Nat.le_of_ble_eq_true rfl) ?_
  show W _ _ _ _ _ _ _ _ _ _ _ _ _ _ _ (F0 m 4 ls [])
  refine lv_aload_n hx hb dX2_init_4 rfl (lv_at hl 0 rfl) ?_
  refine lv_sipush (v := 15129) hx hb dX2_init_5 (by decide) ?_
  refine q_newa C h (atype := .long) 2 rfl rfl rfl w_235 (a0 := (15129, .inr (.inl (fun _ => 0)))) (fun _ => rfl) (by decide) (N' := 15129) (by decide) (Nat.le_of_ble_eq_true rfl) (Nat.le_of_ble_eq_true rfl) (Nat.le_of_ble_eq_true rfl) dX2_init_8 (fun q_29 H nq_29 h => ?_)
  obtain ⟨τ_31, f_30, ef_, t, kx, zx, gx, gw_, tq_29, kq_29⟩ := st_new (tg := 21) (e := .inl (G 2, 15129, .inr (.inl (fun _ => 0)))) t kx zx gx nq_29 (fw_21 _ ⟨_, rfl⟩)
  rw [ef_] at h
  have bq_29 := Gw.rf τ_31 f_30
  refine q_put C h kx flw_X2_11 (Or.inr ⟨_, _, _, rfl, rfl⟩) (v := .ref q_29) rfl rfl (Nat.le_of_ble_eq_true rfl) dX2_init_10 (fun H locs h => ?_)
  have h : hw D b0 s.heap (hu f_30 x (.inr (3, [.ref q_29, .null, .null, .null, .null, .null, .int 0, .int 0, .int 0, .int 0, .int 0]))) H locs := h
  obtain ⟨f_32, ef_, t, kx, gx, gw_⟩ := st_put t zx gx (.inr (3, [.ref q_29, .null, .null, .null, .null, .null, .int 0, .int 0, .int 0, .int 0, .int 0]))
  rw [ef_] at h
  have bq_29 := bq_29.tr gw_
  refine lv_aload_n hx hb dX2_init_13 rfl (lv_at hl 0 rfl) ?_
  refine lv_sipush (v := 15129) hx hb dX2_init_14 (by decide) ?_
  refine q_newa C h (atype := .long) 2 rfl rfl rfl w_235 (a0 := (15129, .inr (.inl (fun _ => 0)))) (fun _ => rfl) (by decide) (N' := 15129) (by decide) (Nat.le_of_ble_eq_true rfl) (Nat.le_of_ble_eq_true rfl) (Nat.le_of_ble_eq_true rfl) dX2_init_17 (fun q_33 H nq_33 h => ?_)
  have dgz_ := tag_ne t (bq_29.tg tq_29 (by decide)) (by decide) nq_33
  obtain ⟨τ_35, f_34, ef_, t, kx, zx, gx, gw_, tq_33, kq_33⟩ := st_new (tg := 21) (e := .inl (G 2, 15129, .inr (.inl (fun _ => 0)))) t kx zx gx nq_33 (fw_21 _ ⟨_, rfl⟩)
  rw [ef_] at h
  have bq_29 := bq_29.tr gw_
  have bq_33 := Gw.rf τ_35 f_34
  refine q_put C h kx flw_X2_15 (Or.inr ⟨_, _, _, rfl, rfl⟩) (v := .ref q_33) rfl rfl (Nat.le_of_ble_eq_true rfl) dX2_init_19 (fun H locs h => ?_)
  have h : hw D b0 s.heap (hu f_34 x (.inr (3, [.ref q_29, .ref q_33, .null, .null, .null, .null, .int 0, .int 0, .int 0, .int 0, .int 0]))) H locs := h
  obtain ⟨f_36, ef_, t, kx, gx, gw_⟩ := st_put t zx gx (.inr (3, [.ref q_29, .ref q_33, .null, .null, .null, .null, .int 0, .int 0, .int 0, .int 0, .int 0]))
  rw [ef_] at h
  have bq_29 := bq_29.tr gw_
  have bq_33 := bq_33.tr gw_
  refine lv_aload_n hx hb dX2_init_22 rfl (lv_at hl 0 rfl) ?_
  refine q_new C h nw_X2_18 (Nat.le_of_ble_eq_true rfl) (Nat.le_of_ble_eq_true rfl) dX2_init_23 (fun q_37 H nq_37 h => ?_)
  refine lv_dup hx hb dX2_init_26 rfl ?_
  refine k_v (r_IN C h hl (host := "QuarterWalks") (As := []) (rest := [.ref q_37, .ref x]) (k_X1_init l D G b0 (t.raw (t.zero nq_37)) q_37 (hu_self _ _ _) (t.zero nq_37) 22 (fun _ _ z_ => fw_22 _ z_)) mk_X1_init rfl (by decide) w_215 w_216 ⟨Nat.le_of_ble_eq_true rfl, Nat.le_of_ble_eq_true rfl⟩ rfl (Nat.le_of_ble_eq_true rfl) ⟨Nat.le_of_ble_eq_true rfl, Nat.le_of_ble_eq_true rfl⟩ rfl dX2_init_27) h (fun f_38 H locs hp h => ?_)
  obtain ⟨τ_39, t1_, G1_, tq_37, pxq_37⟩ := hp
  obtain ⟨kx, zx, gx, gw_⟩ := st_call t kx zx gx nq_37 G1_
  have t := t1_
  have bq_29 := bq_29.tr gw_
  have bq_33 := bq_33.tr gw_
  have bq_37 := Gw.rf τ_39 f_38
  refine q_put C h kx flw_X2_21 (Or.inl hini) (v := .ref q_37) rfl rfl (Nat.le_of_ble_eq_true rfl) dX2_init_30 (fun H locs h => ?_)
  have h : hw D b0 s.heap (hu f_38 x (.inr (3, [.ref q_29, .ref q_33, .ref q_37, .null, .null, .null, .int 0, .int 0, .int 0, .int 0, .int 0]))) H locs := h
  obtain ⟨f_40, ef_, t, kx, gx, gw_⟩ := st_put t zx gx (.inr (3, [.ref q_29, .ref q_33, .ref q_37, .null, .null, .null, .int 0, .int 0, .int 0, .int 0, .int 0]))
  rw [ef_] at h
  have bq_29 := bq_29.tr gw_
  have bq_33 := bq_33.tr gw_
  have bq_37 := bq_37.tr gw_
  refine lv_aload_n hx hb dX2_init_33 rfl (lv_at hl 0 rfl) ?_
  refine q_new C h nw_X2_18 (Nat.le_of_ble_eq_true rfl) (Nat.le_of_ble_eq_true rfl) dX2_init_34 (fun q_41 H nq_41 h => ?_)
  refine lv_dup hx hb dX2_init_37 rfl ?_
  refine k_v (r_IN C h hl (host := "QuarterWalks") (As := []) (rest := [.ref q_41, .ref x]) (k_X1_init l D G b0 (t.raw (t.zero nq_41)) q_41 (hu_self _ _ _) (t.zero nq_41) 23 (fun _ _ z_ => fw_23 _ z_)) mk_X1_init rfl (by decide) w_215 w_216 ⟨Nat.le_of_ble_eq_true rfl, Nat.le_of_ble_eq_true rfl⟩ rfl (Nat.le_of_ble_eq_true rfl) ⟨Nat.le_of_ble_eq_true rfl, Nat.le_of_ble_eq_true rfl⟩ rfl dX2_init_38) h (fun f_42 H locs hp h => ?_)
  obtain ⟨τ_43, t1_, G1_, tq_41, pxq_41⟩ := hp
  obtain ⟨kx, zx, gx, gw_⟩ := st_call t kx zx gx nq_41 G1_
  have t := t1_
  have bq_29 := bq_29.tr gw_
  have bq_33 := bq_33.tr gw_
  have bq_37 := bq_37.tr gw_
  have bq_41 := Gw.rf τ_43 f_42
  refine q_put C h kx flw_X2_25 (Or.inl hini) (v := .ref q_41) rfl rfl (Nat.le_of_ble_eq_true rfl) dX2_init_41 (fun H locs h => ?_)
  have h : hw D b0 s.heap (hu f_42 x (.inr (3, [.ref q_29, .ref q_33, .ref q_37, .ref q_41, .null, .null, .int 0, .int 0, .int 0, .int 0, .int 0]))) H locs := h
  obtain ⟨f_44, ef_, t, kx, gx, gw_⟩ := st_put t zx gx (.inr (3, [.ref q_29, .ref q_33, .ref q_37, .ref q_41, .null, .null, .int 0, .int 0, .int 0, .int 0, .int 0]))
  rw [ef_] at h
  have bq_29 := bq_29.tr gw_
  have bq_33 := bq_33.tr gw_
  have bq_37 := bq_37.tr gw_
  have bq_41 := bq_41.tr gw_
  refine lv_aload_n hx hb dX2_init_44 rfl (lv_at hl 0 rfl) ?_
  refine lv_bipush (v := 8) hx hb dX2_init_45 (by decide) ?_
  refine q_newa C h (atype := .int) 1 rfl rfl rfl w_161 (a0 := (8, .inl (fun _ => 0))) (fun _ => rfl) (by decide) (N' := 8) (by decide) (Nat.le_of_ble_eq_true rfl) (Nat.le_of_ble_eq_true rfl) (Nat.le_of_ble_eq_true rfl) dX2_init_47 (fun q_45 H nq_45 h => ?_)
  obtain ⟨τ_47, f_46, ef_, t, kx, zx, gx, gw_, tq_45, kq_45⟩ := st_new (tg := 24) (e := .inl (G 1, 8, .inl (fun _ => 0))) t kx zx gx nq_45 (fw_24 _ ⟨_, rfl, fun _ => ⟨by decide, by decide⟩⟩)
  rw [ef_] at h
  have bq_29 := bq_29.tr gw_
  have bq_33 := bq_33.tr gw_
  have bq_37 := bq_37.tr gw_
  have bq_41 := bq_41.tr gw_
  have bq_45 := Gw.rf τ_47 f_46
  refine q_put C h kx flw_X2_28 (Or.inl hini) (v := .ref q_45) rfl rfl (Nat.le_of_ble_eq_true rfl) dX2_init_49 (fun H locs h => ?_)
  have h : hw D b0 s.heap (hu f_46 x (.inr (3, [.ref q_29, .ref q_33, .ref q_37, .ref q_41, .ref q_45, .null, .int 0, .int 0, .int 0, .int 0, .int 0]))) H locs := h
  obtain ⟨f_48, ef_, t, kx, gx, gw_⟩ := st_put t zx gx (.inr (3, [.ref q_29, .ref q_33, .ref q_37, .ref q_41, .ref q_45, .null, .int 0, .int 0, .int 0, .int 0, .int 0]))
  rw [ef_] at h
  have bq_29 := bq_29.tr gw_
  have bq_33 := bq_33.tr gw_
  have bq_37 := bq_37.tr gw_
  have bq_41 := bq_41.tr gw_
  have bq_45 := bq_45.tr gw_
  refine lv_aload_n hx hb dX2_init_52 rfl (lv_at hl 0 rfl) ?_
  refine lv_bipush (v := 8) hx hb dX2_init_53 (by decide) ?_
  refine q_newa C h (atype := .long) 2 rfl rfl rfl w_235 (a0 := (8, .inr (.inl (fun _ => 0)))) (fun _ => rfl) (by decide) (N' := 8) (by decide) (Nat.le_of_ble_eq_true rfl) (Nat.le_of_ble_eq_true rfl) (Nat.le_of_ble_eq_true rfl) dX2_init_55 (fun q_49 H nq_49 h => ?_)
  obtain ⟨τ_51, f_50, ef_, t, kx, zx, gx, gw_, tq_49, kq_49⟩ := st_new (tg := 25) (e := .inl (G 2, 8, .inr (.inl (fun _ => 0)))) t kx zx gx nq_49 (fw_25 _ ⟨_, rfl⟩)
  rw [ef_] at h
  have bq_29 := bq_29.tr gw_
  have bq_33 := bq_33.tr gw_
  have bq_37 := bq_37.tr gw_
  have bq_41 := bq_41.tr gw_
  have bq_45 := bq_45.tr gw_
  have bq_49 := Gw.rf τ_51 f_50
  refine q_put C h kx flw_X2_32 (Or.inl hini) (v := .ref q_49) rfl rfl (Nat.le_of_ble_eq_true rfl) dX2_init_57 (fun H locs h => ?_)
  have h : hw D b0 s.heap (hu f_50 x (.inr (3, [.ref q_29, .ref q_33, .ref q_37, .ref q_41, .ref q_45, .ref q_49, .int 0, .int 0, .int 0, .int 0, .int 0]))) H locs := h
  obtain ⟨f_52, ef_, t, kx, gx, gw_⟩ := st_put t zx gx (.inr (3, [.ref q_29, .ref q_33, .ref q_37, .ref q_41, .ref q_45, .ref q_49, .int 0, .int 0, .int 0, .int 0, .int 0]))
  rw [ef_] at h
  have bq_29 := bq_29.tr gw_
  have bq_33 := bq_33.tr gw_
  have bq_37 := bq_37.tr gw_
  have bq_41 := bq_41.tr gw_
  have bq_45 := bq_45.tr gw_
  have bq_49 := bq_49.tr gw_
  have wf_ : wf G 9 τ_51 20 (.inr (3, [.ref q_29, .ref q_33, .ref q_37, .ref q_41, .ref q_45, .ref q_49, .int 0, .int 0, .int 0, .int 0, .int 0])) := fw_20 _ ⟨_, rfl, rfl, fun k_ T_ hk_ => by
    match k_, hk_ with
    | 0, hk_ => cases hk_; exact ⟨_, rfl, _, rfl, bq_29.tg tq_29 (by decide)⟩
    | 1, hk_ => cases hk_; exact ⟨_, rfl, _, rfl, bq_33.tg tq_33 (by decide)⟩
    | 2, hk_ => cases hk_; exact ⟨_, rfl, _, rfl, bq_37.tg tq_37 (by decide)⟩
    | 3, hk_ => cases hk_; exact ⟨_, rfl, _, rfl, bq_41.tg tq_41 (by decide)⟩
    | 4, hk_ => cases hk_; exact ⟨_, rfl, _, rfl, bq_45.tg tq_45 (by decide)⟩
    | 5, hk_ => cases hk_; exact ⟨_, rfl, _, rfl, bq_49.tg tq_49 (by decide)⟩
    | 6, hk_ => cases hk_; exact ⟨_, rfl, _, rfl, ⟨by decide, by decide⟩⟩
    | 7, hk_ => cases hk_; exact ⟨_, rfl, _, rfl, ⟨by decide, by decide⟩⟩
    | 8, hk_ => cases hk_; exact ⟨_, rfl, _, rfl, ⟨by decide, by decide⟩⟩
    | 9, hk_ => cases hk_; exact ⟨_, rfl, _, rfl, ⟨by decide, by decide⟩⟩
    | 10, hk_ => cases hk_; exact ⟨_, rfl, _, rfl, ⟨by decide, by decide⟩⟩
    | k_ + 11, hk_ => simp at hk_⟩
  obtain ⟨τe_, t, gx, gw_, tx_⟩ := st_tag t kx zx gx wf_
  have bq_29 := bq_29.tr gw_
  have bq_33 := bq_33.tr gw_
  have bq_37 := bq_37.tr gw_
  have bq_41 := bq_41.tr gw_
  have bq_45 := bq_45.tr gw_
  have bq_49 := bq_49.tr gw_
  exact q_vret C h hr (⟨_, t, gx, tx_, q_41, q_37, 0, 0, 0, 0, 0, 0, 0, 0, 0, 0, ⟨bq_41.tg tq_41 (by decide), bq_37.tg tq_37 (by decide)⟩, ⟨⟨_, kx, _, _, rfl, rfl⟩, ⟨_, kx, _, _, rfl, rfl⟩, ⟨_, kx, _, _, rfl, rfl⟩, ⟨_, kx, _, _, rfl, rfl⟩⟩, ⟨bq_41.at tq_41 (by decide) ⟨_, pxq_41, _, _, rfl, rfl⟩, bq_41.at tq_41 (by decide) ⟨_, pxq_41, _, _, rfl, rfl⟩, bq_41.at tq_41 (by decide) ⟨_, pxq_41, _, _, rfl, rfl⟩, bq_41.at tq_41 (by decide) ⟨_, pxq_41, _, _, rfl, rfl⟩⟩, ⟨bq_37.at tq_37 (by decide) ⟨_, pxq_37, _, _, rfl, rfl⟩, bq_37.at tq_37 (by decide) ⟨_, pxq_37, _, _, rfl, rfl⟩, bq_37.at tq_37 (by decide) ⟨_, pxq_37, _, _, rfl, rfl⟩, bq_37.at tq_37 (by decide) ⟨_, pxq_37, _, _, rfl, rfl⟩⟩, ⟨⟨by decide, by decide⟩, ⟨by decide, by decide⟩, ⟨by decide, by decide⟩, ⟨by decide, by decide⟩, ⟨by decide, by decide⟩, ⟨by decide, by decide⟩, ⟨by decide, by decide⟩, ⟨by decide, by decide⟩, ⟨by decide, by decide⟩, ⟨by decide, by decide⟩⟩, ⟨by decide, by decide, by decide, by decide⟩, ⟨by decide, by decide, by decide, by decide⟩, q_29, q_33, dgz_, ⟨bq_29.tg tq_29 (by decide), bq_33.tg tq_33 (by decide)⟩, ⟨_, kx, _, _, rfl, rfl⟩, ⟨_, kx, _, _, rfl, rfl⟩, bq_29.at tq_29 (by decide) ⟨_, kq_29, _, _, rfl, fun _ _ _ => rfl⟩, bq_33.at tq_33 (by decide) ⟨_, kq_33, _, _, rfl, fun _ _ _ => rfl⟩⟩) (Nat.le_of_ble_eq_true rfl) (Nat.le_of_ble_eq_true rfl) dX2_init_60
set_option maxRecDepth 100000 in
set_option maxHeartbeats 4000000 in
theorem k_X3_init (l : Launch) (D : va_G) (G : Nat → Nat) (b0 : Nat) {τ0 : Nat → Nat} {f0 : hM} (t : TI G 9 τ0 f0) (x : Nat) (kx : f0 x = some (.inr (4, [.null, .null, .null, .int 0]))) (zx : τ0 x = 0) (mx : Nat) (hmx : τ0 mx = 40) : mV l yX3_init cX3_init 2 { frames := 1, cells := 6, slots := 276, locals := 12 } D G b0 f0 [.ref x, .ref mx] (fun f1 => ∃ τ1, TI G 9 τ1 f1 ∧ Gx x τ0 τ1 f0 f1 ∧ τ1 x = 45 ∧ True) := by
  refine met_of (own := RX3) (by decide) rfl (Nat.le_of_ble_eq_true rfl) ?_
  intro p e s m below meth c ls C hr hini hl h
  have hl : lv_has ls 2 [(0, .ref x), (1, .ref mx)] := hl
  obtain ⟨hx, hb, hml, hown, hts, hE0, hlk⟩ := id C
  have gx := Gx.rf x τ0 f0
  have bmx := Gw.rf τ0 f0
  refine lv_aload_n hx hb dX3_init_0 rfl (lv_at hl 0 rfl) ?_
  refine W.objInit hx hb hown (hts _ w_332) (hts _ w_130) (hts _ w_131) rfl (hl.1.trans hml.symm) rfl dX3_init_1 (Nat.le_of_ble_eq_true rfl) (Nat.le_of_ble_eq_true rfl) ?_
  show W _ _ _ _ _ _ _ _ _ _ _ _ _ _ _ (F0 m 4 ls [])
  refine lv_aload_n hx hb dX3_init_4 rfl (lv_at hl 0 rfl) ?_
  refine lv_aload_n hx hb dX3_init_5 rfl (lv_at hl 1 rfl) ?_
  refine q_put C h kx flw_X3_9 (Or.inl hini) (v := .ref mx) rfl rfl (Nat.le_of_ble_eq_true rfl) dX3_init_6 (fun H locs h => ?_)
  have h : hw D b0 s.heap (hu f0 x (.inr (4, [.ref mx, .null, .null, .int 0]))) H locs := h
  obtain ⟨f_53, ef_, t, kx, gx, gw_⟩ := st_put t zx gx (.inr (4, [.ref mx, .null, .null, .int 0]))
  rw [ef_] at h
  have bmx := bmx.tr gw_
  refine lv_aload_n hx hb dX3_init_9 rfl (lv_at hl 0 rfl) ?_
  refine lv_iconst (v := 4) hx hb dX3_init_10 (by decide) ?_
  refine lv_bipush (v := 61) hx hb dX3_init_11 (by decide) ?_
  refine q_mna C h (ty := .int) (cA := G 5) (cI := G 1) 5 1 rfl (fun z => z) (hE0.1.2 1 _ rfl).2 w_333 hE0.2.2.2.2.2.2.1 w_161 (z := (61, .inl (fun _ => 0))) (by decide) (by decide) (N' := 4) (K' := 61) (by decide) (by decide) (Nat.le_of_ble_eq_true rfl) (Nat.le_of_ble_eq_true rfl) (Nat.le_of_ble_eq_true rfl) rfl rfl (Nat.le_of_ble_eq_true rfl) (Nat.le_of_ble_eq_true rfl) (fun c => inner_int c 61) dX3_init_13 (fun q_54 H nq_54 h => ?_)
  obtain ⟨τ_56, f_55, ef_, t, kx, zx, gx, gw_, tq_54⟩ := st_mna (N := 4) (to := 46) (ti := 47) (g := 5) (ei := .inl (G 1, 61, .inl (fun _ => 0))) t kx zx gx nq_54 (fun τ_ h_ => fw_46 _ h_) (fun τ_ => (fw_47 _ ⟨_, rfl, fun _ => ⟨by decide, by decide⟩⟩))
  rw [ef_] at h
  have bmx := bmx.tr gw_
  have bq_54 := Gw.rf τ_56 f_55
  refine q_put C h kx flw_X3_17 (Or.inl hini) (v := .ref q_54) rfl rfl (Nat.le_of_ble_eq_true rfl) dX3_init_17 (fun H locs h => ?_)
  have h : hw D b0 s.heap (hu f_55 x (.inr (4, [.ref mx, .ref q_54, .null, .int 0]))) H locs := h
  obtain ⟨f_57, ef_, t, kx, gx, gw_⟩ := st_put t zx gx (.inr (4, [.ref mx, .ref q_54, .null, .int 0]))
  rw [ef_] at h
  have bmx := bmx.tr gw_
  have bq_54 := bq_54.tr gw_
  refine lv_aload_n hx hb dX3_init_20 rfl (lv_at hl 0 rfl) ?_
  refine lv_bipush (v := 28) hx hb dX3_init_21 (by decide) ?_
  refine q_newa C h (atype := .int) 1 rfl rfl rfl w_161 (a0 := (28, .inl (fun _ => 0))) (fun _ => rfl) (by decide) (N' := 28) (by decide) (Nat.le_of_ble_eq_true rfl) (Nat.le_of_ble_eq_true rfl) (Nat.le_of_ble_eq_true rfl) dX3_init_23 (fun q_58 H nq_58 h => ?_)
  obtain ⟨τ_60, f_59, ef_, t, kx, zx, gx, gw_, tq_58, kq_58⟩ := st_new (tg := 48) (e := .inl (G 1, 28, .inl (fun _ => 0))) t kx zx gx nq_58 (fw_48 _ ⟨_, rfl, fun _ => ⟨by decide, by decide⟩⟩)
  rw [ef_] at h
  have bmx := bmx.tr gw_
  have bq_54 := bq_54.tr gw_
  have bq_58 := Gw.rf τ_60 f_59
  refine q_put C h kx flw_X3_22 (Or.inl hini) (v := .ref q_58) rfl rfl (Nat.le_of_ble_eq_true rfl) dX3_init_25 (fun H locs h => ?_)
  have h : hw D b0 s.heap (hu f_59 x (.inr (4, [.ref mx, .ref q_54, .ref q_58, .int 0]))) H locs := h
  obtain ⟨f_61, ef_, t, kx, gx, gw_⟩ := st_put t zx gx (.inr (4, [.ref mx, .ref q_54, .ref q_58, .int 0]))
  rw [ef_] at h
  have bmx := bmx.tr gw_
  have bq_54 := bq_54.tr gw_
  have bq_58 := bq_58.tr gw_
  have wf_ : wf G 9 τ_60 45 (.inr (4, [.ref mx, .ref q_54, .ref q_58, .int 0])) := fw_45 _ ⟨_, rfl, rfl, fun k_ T_ hk_ => by
    match k_, hk_ with
    | 0, hk_ => cases hk_; exact ⟨_, rfl, _, rfl, bmx.tg hmx (by decide)⟩
    | 1, hk_ => cases hk_; exact ⟨_, rfl, _, rfl, bq_54.tg tq_54 (by decide)⟩
    | 2, hk_ => cases hk_; exact ⟨_, rfl, _, rfl, bq_58.tg tq_58 (by decide)⟩
    | 3, hk_ => cases hk_; exact ⟨_, rfl, _, rfl, ⟨by decide, by decide⟩⟩
    | k_ + 4, hk_ => simp at hk_⟩
  obtain ⟨τe_, t, gx, gw_, tx_⟩ := st_tag t kx zx gx wf_
  have bmx := bmx.tr gw_
  have bq_54 := bq_54.tr gw_
  have bq_58 := bq_58.tr gw_
  exact q_vret C h hr (⟨_, t, gx, tx_, trivial⟩) (Nat.le_of_ble_eq_true rfl) (Nat.le_of_ble_eq_true rfl) dX3_init_28
set_option maxRecDepth 100000 in
set_option maxHeartbeats 4000000 in
theorem k_J5_init_d00df (l : Launch) (D : va_G) (G : Nat → Nat) (b0 : Nat) {τ0 : Nat → Nat} {f0 : hM} (t : TI G 9 τ0 f0) (x : Nat) (kx : f0 x = some (.inr (0, [.null, .int 0, .int 0, .int 0]))) (zx : τ0 x = 0) : mV l yJ5_init_d00df cJ5_init_d00df 2 { frames := 1, cells := 1, slots := 16, locals := 12 } D G b0 f0 [.ref x, .int 16] (fun f1 => ∃ (τ1 : Nat → Nat) (a : Nat), TI G 9 τ1 f1 ∧ Gx x τ0 τ1 f0 f1 ∧ τ1 x = 0 ∧ f1 x = some (.inr (0, [.ref a, .int 0, .int 0, .int 0])) ∧ τ1 a = 53) := by
  refine met_of (own := RJ5) (by decide) rfl (Nat.le_of_ble_eq_true rfl) ?_
  intro p e s m below meth c ls C hr hini hl h
  have hl : lv_has ls 2 [(0, .ref x), (1, .int 16)] := hl
  obtain ⟨hx, hb, hml, hown, hts, hE0, hlk⟩ := id C
  have gx := Gx.rf x τ0 f0
  refine lv_aload_n hx hb dJ5_init_d00df_0 rfl (lv_at hl 0 rfl) ?_
  refine W.objInit hx hb hown (hts _ w_355) (hts _ w_130) (hts _ w_131) rfl (hl.1.trans hml.symm) rfl dJ5_init_d00df_1 (Nat.le_of_ble_eq_true rfl) (Nat.le_of_ble_eq_true rfl) ?_
  show W _ _ _ _ _ _ _ _ _ _ _ _ _ _ _ (F0 m 4 ls [])
  refine va_gets hx hb hE0.2.1 h.2.2.1 hown (hts _ w_356) (fun _ h9 => h9) dJ5_init_d00df_4 ?_
  refine lv_if_eq (tgt := 25) hx hb dJ5_init_d00df_7 (by decide) (fun c_62 => ?_) (fun c_62 => ?_)
  · exact absurd c_62 (by decide)
  · refine lv_aload_n hx hb dJ5_init_d00df_10 rfl (lv_at hl 0 rfl) ?_
    refine lv_iload_n hx hb dJ5_init_d00df_11 rfl (lv_at hl 1 rfl) ?_
    refine q_newa C h (atype := .byte) 0 rfl rfl rfl w_378 (a0 := (16, .inl (fun _ => 0))) (fun _ => rfl) (by decide) (N' := 16) (by decide) (Nat.le_of_ble_eq_true rfl) (Nat.le_of_ble_eq_true rfl) (Nat.le_of_ble_eq_true rfl) dJ5_init_d00df_12 (fun q_63 H nq_63 h => ?_)
    obtain ⟨τ_65, f_64, ef_, t, kx, zx, gx, gw_, tq_63, kq_63⟩ := st_new (tg := 53) (e := .inl (G 0, 16, .inl (fun _ => 0))) t kx zx gx nq_63 (fw_53 _ ⟨_, _, rfl, ⟨by decide, by decide⟩, fun _ => ⟨by decide, by decide⟩⟩)
    rw [ef_] at h
    have bq_63 := Gw.rf τ_65 f_64
    refine q_put C h kx flw_J5_15 (Or.inr ⟨_, _, _, rfl, rfl⟩) (v := .ref q_63) rfl rfl (Nat.le_of_ble_eq_true rfl) dJ5_init_d00df_14 (fun H locs h => ?_)
    have h : hw D b0 s.heap (hu f_64 x (.inr (0, [.ref q_63, .int 0, .int 0, .int 0]))) H locs := h
    obtain ⟨f_66, ef_, t, kx, gx, gw_⟩ := st_put t zx gx (.inr (0, [.ref q_63, .int 0, .int 0, .int 0]))
    rw [ef_] at h
    have bq_63 := bq_63.tr gw_
    refine lv_aload_n hx hb dJ5_init_d00df_17 rfl (lv_at hl 0 rfl) ?_
    refine lv_iconst (v := 0) hx hb dJ5_init_d00df_18 (by decide) ?_
    refine q_put C h kx flw_J5_22 (Or.inr ⟨_, _, _, rfl, rfl⟩) (v := .int 0) rfl rfl (Nat.le_of_ble_eq_true rfl) dJ5_init_d00df_19 (fun H locs h => ?_)
    have h : hw D b0 s.heap (hu f_66 x (.inr (0, [.ref q_63, .int 0, .int 0, .int 0]))) H locs := h
    rw [hu_id kx] at h
    refine lv_goto (tgt := 38) hx hb dJ5_init_d00df_22 (by decide) ?_
    exact q_vret C h hr (⟨_, _, t, gx, zx, kx, bq_63.tg tq_63 (by decide)⟩) (Nat.le_of_ble_eq_true rfl) (Nat.le_of_ble_eq_true rfl) dJ5_init_d00df_38
set_option maxRecDepth 100000 in
set_option maxHeartbeats 4000000 in
theorem k_J4_init_da8c8 (l : Launch) (D : va_G) (G : Nat → Nat) (b0 : Nat) {τ0 : Nat → Nat} {f0 : hM} (t : TI G 9 τ0 f0) (x : Nat) (kx : f0 x = some (.inr (0, [.null, .int 0, .int 0, .int 0]))) (zx : τ0 x = 0) : mV l yJ4_init_da8c8 cJ4_init_da8c8 1 { frames := 2, cells := 1, slots := 16, locals := 33 } D G b0 f0 [.ref x] (fun f1 => ∃ τ1, TI G 9 τ1 f1 ∧ Gx x τ0 τ1 f0 f1 ∧ τ1 x = 52 ∧ True) := by
  refine met_of (own := RJ4) (by decide) rfl (Nat.le_of_ble_eq_true rfl) ?_
  intro p e s m below meth c ls C hr hini hl h
  have hl : lv_has ls 1 [(0, .ref x)] := hl
  obtain ⟨hx, hb, hml, hown, hts, hE0, hlk⟩ := id C
  have gx := Gx.rf x τ0 f0
  refine lv_aload_n hx hb dJ4_init_da8c8_0 rfl (lv_at hl 0 rfl) ?_
  refine lv_bipush (v := 16) hx hb dJ4_init_da8c8_1 (by decide) ?_
  refine k_v (r_I C h hl (As := [.int 16]) (rest := []) (k_J5_init_d00df l D G b0 t x kx zx) mk_J5_init_d00df rfl w_352 w_353 w_354 ⟨Nat.le_of_ble_eq_true rfl, Nat.le_of_ble_eq_true rfl⟩ rfl (Nat.le_of_ble_eq_true rfl) ⟨Nat.le_of_ble_eq_true rfl, Nat.le_of_ble_eq_true rfl⟩ rfl dJ4_init_da8c8_3) h (fun f_67 H locs hp h => ?_)
  obtain ⟨τ1_, a_, t, gx, zx, kx, ta_⟩ := hp
  have ba_ := Gw.rf τ1_ f_67
  have wf_ : wf G 9 τ1_ 52 (.inr (0, [.ref a_, .int 0, .int 0, .int 0])) := fw_52 _ ⟨_, rfl, rfl, fun k_ T_ hk_ => by
    match k_, hk_ with
    | 0, hk_ => cases hk_; exact ⟨_, rfl, _, rfl, ba_.tg ta_ (by decide)⟩
    | 1, hk_ => cases hk_; exact ⟨_, rfl, _, rfl, ⟨by decide, by decide⟩⟩
    | 2, hk_ => cases hk_; exact ⟨_, rfl, _, rfl, ⟨by decide, by decide⟩⟩
    | 3, hk_ => cases hk_; exact ⟨_, rfl, _, rfl, ⟨by decide, by decide⟩⟩
    | k_ + 4, hk_ => simp at hk_⟩
  obtain ⟨τe_, t, gx, gw_, tx_⟩ := st_tag t kx zx gx wf_
  have ba_ := ba_.tr gw_
  exact q_vret C h hr (⟨_, t, gx, tx_, trivial⟩) (Nat.le_of_ble_eq_true rfl) (Nat.le_of_ble_eq_true rfl) dJ4_init_da8c8_6
set_option maxRecDepth 100000 in
set_option maxHeartbeats 4000000 in
theorem k_X0_init (l : Launch) (D : va_G) (G : Nat → Nat) (b0 : Nat) {τ0 : Nat → Nat} {f0 : hM} (t : TI G 9 τ0 f0) (x : Nat) (kx : f0 x = some (.inr (1, [.int 0, .null, .null, .null, .int 0, .int 0]))) (zx : τ0 x = 0) : mV l yX0_init cX0_init 2 { frames := 2, cells := 29, slots := 152, locals := 32 } D G b0 f0 [.ref x] (fun f1 => ∃ τ1, TI G 9 τ1 f1 ∧ Gx x τ0 τ1 f0 f1 ∧ τ1 x = 12 ∧ ∃ K sh qs : Nat → Nat, BK0 G τ1 f1 x K sh qs) := by
  refine met_of (own := RX0) (by decide) rfl (Nat.le_of_ble_eq_true rfl) ?_
  intro p e s m below meth c ls C hr hini hl h
  have hl : lv_has ls 2 [(0, .ref x)] := hl
  obtain ⟨hx, hb, hml, hown, hts, hE0, hlk⟩ := id C
  have gx := Gx.rf x τ0 f0
  refine lv_aload_n hx hb dX0_init_0 rfl (lv_at hl 0 rfl) ?_
  refine W.objInit hx hb hown (hts _ w_167) (hts _ w_130) (hts _ w_131) rfl (hl.1.trans hml.symm) rfl dX0_init_1 (Nat.le_of_ble_eq_true rfl) (Nat.le_of_ble_eq_true rfl) ?_
  show W _ _ _ _ _ _ _ _ _ _ _ _ _ _ _ (F0 m 4 ls [])
  refine lv_aload_n hx hb dX0_init_4 rfl (lv_at hl 0 rfl) ?_
  refine q_new C h nw_X0_9 (Nat.le_of_ble_eq_true rfl) (Nat.le_of_ble_eq_true rfl) dX0_init_5 (fun q_69 H nq_69 h => ?_)
  refine lv_dup hx hb dX0_init_8 rfl ?_
  refine k_v (r_I C h hl (As := []) (rest := [.ref q_69, .ref x]) (k_X5_init l D G b0 (t.raw (t.zero nq_69)) q_69 (hu_self _ _ _) (t.zero nq_69) 15 (fun _ _ z_ => fw_15 _ z_)) mk_X5_init rfl w_170 w_171 w_172 ⟨Nat.le_of_ble_eq_true rfl, Nat.le_of_ble_eq_true rfl⟩ rfl (Nat.le_of_ble_eq_true rfl) ⟨Nat.le_of_ble_eq_true rfl, Nat.le_of_ble_eq_true rfl⟩ rfl dX0_init_9) h (fun f_70 H locs hp h => ?_)
  obtain ⟨τ_71, t1_, G1_, tq_69, pxq_69⟩ := hp
  obtain ⟨kx, zx, gx, gw_⟩ := st_call t kx zx gx nq_69 G1_
  have t := t1_
  have bq_69 := Gw.rf τ_71 f_70
  obtain ⟨rq_69, nrq_69, krq_69, trq_69⟩ := pxq_69
  refine q_put C h kx flw_X0_12 (Or.inl hini) (v := .ref q_69) rfl rfl (Nat.le_of_ble_eq_true rfl) dX0_init_12 (fun H locs h => ?_)
  have h : hw D b0 s.heap (hu f_70 x (.inr (1, [.int 0, .ref q_69, .null, .null, .int 0, .int 0]))) H locs := h
  obtain ⟨f_72, ef_, t, kx, gx, gw_⟩ := st_put t zx gx (.inr (1, [.int 0, .ref q_69, .null, .null, .int 0, .int 0]))
  rw [ef_] at h
  have bq_69 := bq_69.tr gw_
  refine lv_aload_n hx hb dX0_init_15 rfl (lv_at hl 0 rfl) ?_
  refine q_new C h nw_X0_9 (Nat.le_of_ble_eq_true rfl) (Nat.le_of_ble_eq_true rfl) dX0_init_16 (fun q_73 H nq_73 h => ?_)
  have tprev_ := t
  have b1_ := bq_69
  refine lv_dup hx hb dX0_init_19 rfl ?_
  refine k_v (r_I C h hl (As := []) (rest := [.ref q_73, .ref x]) (k_X5_init l D G b0 (t.raw (t.zero nq_73)) q_73 (hu_self _ _ _) (t.zero nq_73) 16 (fun _ _ z_ => fw_16 _ z_)) mk_X5_init rfl w_170 w_171 w_172 ⟨Nat.le_of_ble_eq_true rfl, Nat.le_of_ble_eq_true rfl⟩ rfl (Nat.le_of_ble_eq_true rfl) ⟨Nat.le_of_ble_eq_true rfl, Nat.le_of_ble_eq_true rfl⟩ rfl dX0_init_20) h (fun f_74 H locs hp h => ?_)
  obtain ⟨τ_75, t1_, G1_, tq_73, pxq_73⟩ := hp
  obtain ⟨kx, zx, gx, gw_⟩ := st_call t kx zx gx nq_73 G1_
  have t := t1_
  have bq_69 := bq_69.tr gw_
  have bq_73 := Gw.rf τ_75 f_74
  obtain ⟨rq_73, nrq_73, krq_73, trq_73⟩ := pxq_73
  have dr_ : rq_69 ≠ rq_73 := tag_ne tprev_ (b1_.tg trq_69 (by decide)) (by decide) (hu_none nrq_73)
  refine q_put C h kx flw_X0_18 (Or.inl hini) (v := .ref q_73) rfl rfl (Nat.le_of_ble_eq_true rfl) dX0_init_23 (fun H locs h => ?_)
  have h : hw D b0 s.heap (hu f_74 x (.inr (1, [.int 0, .ref q_69, .ref q_73, .null, .int 0, .int 0]))) H locs := h
  obtain ⟨f_76, ef_, t, kx, gx, gw_⟩ := st_put t zx gx (.inr (1, [.int 0, .ref q_69, .ref q_73, .null, .int 0, .int 0]))
  rw [ef_] at h
  have bq_69 := bq_69.tr gw_
  have bq_73 := bq_73.tr gw_
  refine lv_aload_n hx hb dX0_init_26 rfl (lv_at hl 0 rfl) ?_
  refine lv_bipush (v := 12) hx hb dX0_init_27 (by decide) ?_
  refine q_newq C h 3 rfl w_168 C.2.2.2.2.2.1.2.2.2.2.1 (by decide) (N' := 12) (by decide) (Nat.le_of_ble_eq_true rfl) (Nat.le_of_ble_eq_true rfl) (Nat.le_of_ble_eq_true rfl) dX0_init_29 (fun q_77 H nq_77 h => ?_)
  have nb_ := gx_none gx (hne0 nq_77 kx).symm nq_77
  have dx_ : x ≠ q_77 := hne0 nq_77 kx
  have zb_ := t.zero nq_77
  obtain ⟨f_78, ef_, t, kx, gx, gw_⟩ := st_raw t kx gx zb_ dx_ nb_ (.inl (G 3, 12, .inr (.inr (.inr (.inr (fun _ => none))))))
  have kb_ : f_78 q_77 = some (.inl (G 3, 12, .inr (.inr (.inr (.inr (fun _ => none)))))) := by rw [← ef_]; exact hu_self _ _ _
  rw [ef_] at h
  have bq_69 := bq_69.tr gw_
  have bq_73 := bq_73.tr gw_
  have ls_ : LSh G τ_75 f_78 q_77 rq_69 rq_73 0 (fun _ => none) (fun _ => 0) (fun _ => 0) := ⟨kb_, zb_, fun j hj => absurd hj (Nat.not_lt_zero _), fun j hj => absurd hj (Nat.not_lt_zero _), fun j _ hj => absurd hj (Nat.not_lt_zero _)⟩
  refine q_put C h kx flw_X0_21 (Or.inl hini) (v := .ref q_77) rfl rfl (Nat.le_of_ble_eq_true rfl) dX0_init_32 (fun H locs h => ?_)
  have h : hw D b0 s.heap (hu f_78 x (.inr (1, [.int 0, .ref q_69, .ref q_73, .ref q_77, .int 0, .int 0]))) H locs := h
  obtain ⟨f_79, ef_, t, kx, gx, gw_⟩ := st_put t zx gx (.inr (1, [.int 0, .ref q_69, .ref q_73, .ref q_77, .int 0, .int 0]))
  have ls_ := LSh.put ls_ ef_ zx dx_
  have kb_ := ls_.1
  rw [ef_] at h
  have bq_69 := bq_69.tr gw_
  have bq_73 := bq_73.tr gw_
  refine lv_iconst (v := 0) hx hb dX0_init_35 (by decide) ?_
  refine lv_istore_n (lv' := [(1, .int 0), (0, .ref x)]) hx hb dX0_init_36 rfl hl (by decide) rfl (fun ls hl => ?_)
  refine lv_iload_n hx hb dX0_init_37 rfl (lv_at hl 0 rfl) ?_
  refine lv_bipush (v := 12) hx hb dX0_init_38 (by decide) ?_
  refine lv_icmp_ge (tgt := 62) hx hb dX0_init_40 (by decide) (fun c_80 => ?_) (fun c_80 => ?_)
  · exact absurd c_80 (by decide)
  · skip
    refine lv_aload_n hx hb dX0_init_43 rfl (lv_at hl 1 rfl) ?_
    refine q_get C h kx fl_X0_21 (v := .ref q_77) rfl dX0_init_44 ?_
    refine lv_iload_n hx hb dX0_init_47 rfl (lv_at hl 0 rfl) ?_
    refine q_new C h nw_X0_9 (Nat.le_of_ble_eq_true rfl) (Nat.le_of_ble_eq_true rfl) dX0_init_48 (fun q_81 H nq_81 h => ?_)
    refine lv_dup hx hb dX0_init_51 rfl ?_
    refine k_v (r_I C h hl (As := []) (rest := [.ref q_81, .int 0, .ref q_77]) (k_X5_init l D G b0 (t.raw (t.zero nq_81)) q_81 (hu_self _ _ _) (t.zero nq_81) 18 (fun _ _ z_ => fw_18 _ z_)) mk_X5_init rfl w_170 w_171 w_172 ⟨Nat.le_of_ble_eq_true rfl, Nat.le_of_ble_eq_true rfl⟩ rfl (Nat.le_of_ble_eq_true rfl) ⟨Nat.le_of_ble_eq_true rfl, Nat.le_of_ble_eq_true rfl⟩ rfl dX0_init_52) h (fun f_82 H locs hp h => ?_)
    obtain ⟨τ_83, t1_, G1_, tq_81, pxq_81⟩ := hp
    obtain ⟨a_, na_, ka_, ta_⟩ := pxq_81
    have ex_ := (gw_call t nq_81 G1_).1
    obtain ⟨kb_, ls1_⟩ := LSh.step ls_ t t1_ nq_81 G1_ tq_81 ta_ (hu_none na_) ka_ (bq_69.tg trq_69 (by decide)) (bq_73.tg trq_73 (by decide)) (Int32.toNatClampNeg 0) rfl
    have zb_ : τ_83 q_77 = 0 := ls1_.2.1
    have ls_ := ls1_
    obtain ⟨kx, zx, gx, gw_⟩ := st_call t kx zx gx nq_81 G1_
    have t := t1_
    have bq_69 := bq_69.tr gw_
    have bq_73 := bq_73.tr gw_
    refine q_aast C h 3 6 (rr := (RX5, TX5, 2)) rfl rfl kb_ ka_ (vp_in_iff.mpr ⟨by decide, by decide⟩) dX0_init_55 (fun H locs h => ?_)
    obtain ⟨f_84, ef_, t, kx, gx, gw_⟩ := st_raw t kx gx zb_ dx_ nb_ (.inl (G 3, 12, .inr (.inr (.inr (.inr (va_up (fun _ => none) (Int32.toNatClampNeg 0) (some q_81)))))))
    rw [ef_] at h ls_
    have bq_69 := bq_69.tr gw_
    have bq_73 := bq_73.tr gw_
    obtain ⟨ρ_88, sh_86, qs_87, er_, ls_⟩ : ∃ ρ_ sh_ qs_, (va_up (fun _ => none) (Int32.toNatClampNeg 0) (some q_81)) = ρ_ ∧ LSh G τ_83 f_84 q_77 rq_69 rq_73 1 ρ_ sh_ qs_ := ⟨_, _, _, rfl, ls_⟩
    have kb_ := ls_.1
    refine lv_iinc (v := 1) (lv' := [(1, .int 1), (0, .ref x)]) hx hb dX0_init_56 hl (k := 0) rfl (by decide) (by decide) rfl (fun ls hl => ?_)
    refine lv_goto (tgt := 37) hx hb dX0_init_59 (by decide) ?_
    refine lv_iload_n hx hb dX0_init_37 rfl (lv_at hl 0 rfl) ?_
    refine lv_bipush (v := 12) hx hb dX0_init_38 (by decide) ?_
    refine lv_icmp_ge (tgt := 62) hx hb dX0_init_40 (by decide) (fun c_89 => ?_) (fun c_89 => ?_)
    · exact absurd c_89 (by decide)
    · skip
      refine lv_aload_n hx hb dX0_init_43 rfl (lv_at hl 1 rfl) ?_
      refine q_get C h kx fl_X0_21 (v := .ref q_77) rfl dX0_init_44 ?_
      refine lv_iload_n hx hb dX0_init_47 rfl (lv_at hl 0 rfl) ?_
      refine q_new C h nw_X0_9 (Nat.le_of_ble_eq_true rfl) (Nat.le_of_ble_eq_true rfl) dX0_init_48 (fun q_90 H nq_90 h => ?_)
      refine lv_dup hx hb dX0_init_51 rfl ?_
      refine k_v (r_I C h hl (As := []) (rest := [.ref q_90, .int 1, .ref q_77]) (k_X5_init l D G b0 (t.raw (t.zero nq_90)) q_90 (hu_self _ _ _) (t.zero nq_90) 18 (fun _ _ z_ => fw_18 _ z_)) mk_X5_init rfl w_170 w_171 w_172 ⟨Nat.le_of_ble_eq_true rfl, Nat.le_of_ble_eq_true rfl⟩ rfl (Nat.le_of_ble_eq_true rfl) ⟨Nat.le_of_ble_eq_true rfl, Nat.le_of_ble_eq_true rfl⟩ rfl dX0_init_52) h (fun f_91 H locs hp h => ?_)
      obtain ⟨τ_92, t1_, G1_, tq_90, pxq_90⟩ := hp
      obtain ⟨a_, na_, ka_, ta_⟩ := pxq_90
      have ex_ := (gw_call t nq_90 G1_).1
      obtain ⟨kb_, ls1_⟩ := LSh.step ls_ t t1_ nq_90 G1_ tq_90 ta_ (hu_none na_) ka_ (bq_69.tg trq_69 (by decide)) (bq_73.tg trq_73 (by decide)) (Int32.toNatClampNeg 1) rfl
      have zb_ : τ_92 q_77 = 0 := ls1_.2.1
      have ls_ := ls1_
      obtain ⟨kx, zx, gx, gw_⟩ := st_call t kx zx gx nq_90 G1_
      have t := t1_
      have bq_69 := bq_69.tr gw_
      have bq_73 := bq_73.tr gw_
      refine q_aast C h 3 6 (rr := (RX5, TX5, 2)) rfl rfl kb_ ka_ (vp_in_iff.mpr ⟨by decide, by decide⟩) dX0_init_55 (fun H locs h => ?_)
      obtain ⟨f_93, ef_, t, kx, gx, gw_⟩ := st_raw t kx gx zb_ dx_ nb_ (.inl (G 3, 12, .inr (.inr (.inr (.inr (va_up ρ_88 (Int32.toNatClampNeg 1) (some q_90)))))))
      rw [ef_] at h ls_
      have bq_69 := bq_69.tr gw_
      have bq_73 := bq_73.tr gw_
      obtain ⟨ρ_97, sh_95, qs_96, er_, ls_⟩ : ∃ ρ_ sh_ qs_, (va_up ρ_88 (Int32.toNatClampNeg 1) (some q_90)) = ρ_ ∧ LSh G τ_92 f_93 q_77 rq_69 rq_73 2 ρ_ sh_ qs_ := ⟨_, _, _, rfl, ls_⟩
      have kb_ := ls_.1
      refine lv_iinc (v := 2) (lv' := [(1, .int 2), (0, .ref x)]) hx hb dX0_init_56 hl (k := 0) rfl (by decide) (by decide) rfl (fun ls hl => ?_)
      refine lv_goto (tgt := 37) hx hb dX0_init_59 (by decide) ?_
      refine lv_iload_n hx hb dX0_init_37 rfl (lv_at hl 0 rfl) ?_
      refine lv_bipush (v := 12) hx hb dX0_init_38 (by decide) ?_
      refine lv_icmp_ge (tgt := 62) hx hb dX0_init_40 (by decide) (fun c_98 => ?_) (fun c_98 => ?_)
      · exact absurd c_98 (by decide)
      · skip
        refine lv_aload_n hx hb dX0_init_43 rfl (lv_at hl 1 rfl) ?_
        refine q_get C h kx fl_X0_21 (v := .ref q_77) rfl dX0_init_44 ?_
        refine lv_iload_n hx hb dX0_init_47 rfl (lv_at hl 0 rfl) ?_
        refine q_new C h nw_X0_9 (Nat.le_of_ble_eq_true rfl) (Nat.le_of_ble_eq_true rfl) dX0_init_48 (fun q_99 H nq_99 h => ?_)
        refine lv_dup hx hb dX0_init_51 rfl ?_
        refine k_v (r_I C h hl (As := []) (rest := [.ref q_99, .int 2, .ref q_77]) (k_X5_init l D G b0 (t.raw (t.zero nq_99)) q_99 (hu_self _ _ _) (t.zero nq_99) 18 (fun _ _ z_ => fw_18 _ z_)) mk_X5_init rfl w_170 w_171 w_172 ⟨Nat.le_of_ble_eq_true rfl, Nat.le_of_ble_eq_true rfl⟩ rfl (Nat.le_of_ble_eq_true rfl) ⟨Nat.le_of_ble_eq_true rfl, Nat.le_of_ble_eq_true rfl⟩ rfl dX0_init_52) h (fun f_100 H locs hp h => ?_)
        obtain ⟨τ_101, t1_, G1_, tq_99, pxq_99⟩ := hp
        obtain ⟨a_, na_, ka_, ta_⟩ := pxq_99
        have ex_ := (gw_call t nq_99 G1_).1
        obtain ⟨kb_, ls1_⟩ := LSh.step ls_ t t1_ nq_99 G1_ tq_99 ta_ (hu_none na_) ka_ (bq_69.tg trq_69 (by decide)) (bq_73.tg trq_73 (by decide)) (Int32.toNatClampNeg 2) rfl
        have zb_ : τ_101 q_77 = 0 := ls1_.2.1
        have ls_ := ls1_
        obtain ⟨kx, zx, gx, gw_⟩ := st_call t kx zx gx nq_99 G1_
        have t := t1_
        have bq_69 := bq_69.tr gw_
        have bq_73 := bq_73.tr gw_
        refine q_aast C h 3 6 (rr := (RX5, TX5, 2)) rfl rfl kb_ ka_ (vp_in_iff.mpr ⟨by decide, by decide⟩) dX0_init_55 (fun H locs h => ?_)
        obtain ⟨f_102, ef_, t, kx, gx, gw_⟩ := st_raw t kx gx zb_ dx_ nb_ (.inl (G 3, 12, .inr (.inr (.inr (.inr (va_up ρ_97 (Int32.toNatClampNeg 2) (some q_99)))))))
        rw [ef_] at h ls_
        have bq_69 := bq_69.tr gw_
        have bq_73 := bq_73.tr gw_
        obtain ⟨ρ_106, sh_104, qs_105, er_, ls_⟩ : ∃ ρ_ sh_ qs_, (va_up ρ_97 (Int32.toNatClampNeg 2) (some q_99)) = ρ_ ∧ LSh G τ_101 f_102 q_77 rq_69 rq_73 3 ρ_ sh_ qs_ := ⟨_, _, _, rfl, ls_⟩
        have kb_ := ls_.1
        refine lv_iinc (v := 3) (lv' := [(1, .int 3), (0, .ref x)]) hx hb dX0_init_56 hl (k := 0) rfl (by decide) (by decide) rfl (fun ls hl => ?_)
        refine lv_goto (tgt := 37) hx hb dX0_init_59 (by decide) ?_
        refine lv_iload_n hx hb dX0_init_37 rfl (lv_at hl 0 rfl) ?_
        refine lv_bipush (v := 12) hx hb dX0_init_38 (by decide) ?_
        refine lv_icmp_ge (tgt := 62) hx hb dX0_init_40 (by decide) (fun c_107 => ?_) (fun c_107 => ?_)
        · exact absurd c_107 (by decide)
        · skip
          refine lv_aload_n hx hb dX0_init_43 rfl (lv_at hl 1 rfl) ?_
          refine q_get C h kx fl_X0_21 (v := .ref q_77) rfl dX0_init_44 ?_
          refine lv_iload_n hx hb dX0_init_47 rfl (lv_at hl 0 rfl) ?_
          refine q_new C h nw_X0_9 (Nat.le_of_ble_eq_true rfl) (Nat.le_of_ble_eq_true rfl) dX0_init_48 (fun q_108 H nq_108 h => ?_)
          refine lv_dup hx hb dX0_init_51 rfl ?_
          refine k_v (r_I C h hl (As := []) (rest := [.ref q_108, .int 3, .ref q_77]) (k_X5_init l D G b0 (t.raw (t.zero nq_108)) q_108 (hu_self _ _ _) (t.zero nq_108) 18 (fun _ _ z_ => fw_18 _ z_)) mk_X5_init rfl w_170 w_171 w_172 ⟨Nat.le_of_ble_eq_true rfl, Nat.le_of_ble_eq_true rfl⟩ rfl (Nat.le_of_ble_eq_true rfl) ⟨Nat.le_of_ble_eq_true rfl, Nat.le_of_ble_eq_true rfl⟩ rfl dX0_init_52) h (fun f_109 H locs hp h => ?_)
          obtain ⟨τ_110, t1_, G1_, tq_108, pxq_108⟩ := hp
          obtain ⟨a_, na_, ka_, ta_⟩ := pxq_108
          have ex_ := (gw_call t nq_108 G1_).1
          obtain ⟨kb_, ls1_⟩ := LSh.step ls_ t t1_ nq_108 G1_ tq_108 ta_ (hu_none na_) ka_ (bq_69.tg trq_69 (by decide)) (bq_73.tg trq_73 (by decide)) (Int32.toNatClampNeg 3) rfl
          have zb_ : τ_110 q_77 = 0 := ls1_.2.1
          have ls_ := ls1_
          obtain ⟨kx, zx, gx, gw_⟩ := st_call t kx zx gx nq_108 G1_
          have t := t1_
          have bq_69 := bq_69.tr gw_
          have bq_73 := bq_73.tr gw_
          refine q_aast C h 3 6 (rr := (RX5, TX5, 2)) rfl rfl kb_ ka_ (vp_in_iff.mpr ⟨by decide, by decide⟩) dX0_init_55 (fun H locs h => ?_)
          obtain ⟨f_111, ef_, t, kx, gx, gw_⟩ := st_raw t kx gx zb_ dx_ nb_ (.inl (G 3, 12, .inr (.inr (.inr (.inr (va_up ρ_106 (Int32.toNatClampNeg 3) (some q_108)))))))
          rw [ef_] at h ls_
          have bq_69 := bq_69.tr gw_
          have bq_73 := bq_73.tr gw_
          obtain ⟨ρ_115, sh_113, qs_114, er_, ls_⟩ : ∃ ρ_ sh_ qs_, (va_up ρ_106 (Int32.toNatClampNeg 3) (some q_108)) = ρ_ ∧ LSh G τ_110 f_111 q_77 rq_69 rq_73 4 ρ_ sh_ qs_ := ⟨_, _, _, rfl, ls_⟩
          have kb_ := ls_.1
          refine lv_iinc (v := 4) (lv' := [(1, .int 4), (0, .ref x)]) hx hb dX0_init_56 hl (k := 0) rfl (by decide) (by decide) rfl (fun ls hl => ?_)
          refine lv_goto (tgt := 37) hx hb dX0_init_59 (by decide) ?_
          refine lv_iload_n hx hb dX0_init_37 rfl (lv_at hl 0 rfl) ?_
          refine lv_bipush (v := 12) hx hb dX0_init_38 (by decide) ?_
          refine lv_icmp_ge (tgt := 62) hx hb dX0_init_40 (by decide) (fun c_116 => ?_) (fun c_116 => ?_)
          · exact absurd c_116 (by decide)
          · skip
            refine lv_aload_n hx hb dX0_init_43 rfl (lv_at hl 1 rfl) ?_
            refine q_get C h kx fl_X0_21 (v := .ref q_77) rfl dX0_init_44 ?_
            refine lv_iload_n hx hb dX0_init_47 rfl (lv_at hl 0 rfl) ?_
            refine q_new C h nw_X0_9 (Nat.le_of_ble_eq_true rfl) (Nat.le_of_ble_eq_true rfl) dX0_init_48 (fun q_117 H nq_117 h => ?_)
            refine lv_dup hx hb dX0_init_51 rfl ?_
            refine k_v (r_I C h hl (As := []) (rest := [.ref q_117, .int 4, .ref q_77]) (k_X5_init l D G b0 (t.raw (t.zero nq_117)) q_117 (hu_self _ _ _) (t.zero nq_117) 18 (fun _ _ z_ => fw_18 _ z_)) mk_X5_init rfl w_170 w_171 w_172 ⟨Nat.le_of_ble_eq_true rfl, Nat.le_of_ble_eq_true rfl⟩ rfl (Nat.le_of_ble_eq_true rfl) ⟨Nat.le_of_ble_eq_true rfl, Nat.le_of_ble_eq_true rfl⟩ rfl dX0_init_52) h (fun f_118 H locs hp h => ?_)
            obtain ⟨τ_119, t1_, G1_, tq_117, pxq_117⟩ := hp
            obtain ⟨a_, na_, ka_, ta_⟩ := pxq_117
            have ex_ := (gw_call t nq_117 G1_).1
            obtain ⟨kb_, ls1_⟩ := LSh.step ls_ t t1_ nq_117 G1_ tq_117 ta_ (hu_none na_) ka_ (bq_69.tg trq_69 (by decide)) (bq_73.tg trq_73 (by decide)) (Int32.toNatClampNeg 4) rfl
            have zb_ : τ_119 q_77 = 0 := ls1_.2.1
            have ls_ := ls1_
            obtain ⟨kx, zx, gx, gw_⟩ := st_call t kx zx gx nq_117 G1_
            have t := t1_
            have bq_69 := bq_69.tr gw_
            have bq_73 := bq_73.tr gw_
            refine q_aast C h 3 6 (rr := (RX5, TX5, 2)) rfl rfl kb_ ka_ (vp_in_iff.mpr ⟨by decide, by decide⟩) dX0_init_55 (fun H locs h => ?_)
            obtain ⟨f_120, ef_, t, kx, gx, gw_⟩ := st_raw t kx gx zb_ dx_ nb_ (.inl (G 3, 12, .inr (.inr (.inr (.inr (va_up ρ_115 (Int32.toNatClampNeg 4) (some q_117)))))))
            rw [ef_] at h ls_
            have bq_69 := bq_69.tr gw_
            have bq_73 := bq_73.tr gw_
            obtain ⟨ρ_124, sh_122, qs_123, er_, ls_⟩ : ∃ ρ_ sh_ qs_, (va_up ρ_115 (Int32.toNatClampNeg 4) (some q_117)) = ρ_ ∧ LSh G τ_119 f_120 q_77 rq_69 rq_73 5 ρ_ sh_ qs_ := ⟨_, _, _, rfl, ls_⟩
            have kb_ := ls_.1
            refine lv_iinc (v := 5) (lv' := [(1, .int 5), (0, .ref x)]) hx hb dX0_init_56 hl (k := 0) rfl (by decide) (by decide) rfl (fun ls hl => ?_)
            refine lv_goto (tgt := 37) hx hb dX0_init_59 (by decide) ?_
            refine lv_iload_n hx hb dX0_init_37 rfl (lv_at hl 0 rfl) ?_
            refine lv_bipush (v := 12) hx hb dX0_init_38 (by decide) ?_
            refine lv_icmp_ge (tgt := 62) hx hb dX0_init_40 (by decide) (fun c_125 => ?_) (fun c_125 => ?_)
            · exact absurd c_125 (by decide)
            · skip
              refine lv_aload_n hx hb dX0_init_43 rfl (lv_at hl 1 rfl) ?_
              refine q_get C h kx fl_X0_21 (v := .ref q_77) rfl dX0_init_44 ?_
              refine lv_iload_n hx hb dX0_init_47 rfl (lv_at hl 0 rfl) ?_
              refine q_new C h nw_X0_9 (Nat.le_of_ble_eq_true rfl) (Nat.le_of_ble_eq_true rfl) dX0_init_48 (fun q_126 H nq_126 h => ?_)
              refine lv_dup hx hb dX0_init_51 rfl ?_
              refine k_v (r_I C h hl (As := []) (rest := [.ref q_126, .int 5, .ref q_77]) (k_X5_init l D G b0 (t.raw (t.zero nq_126)) q_126 (hu_self _ _ _) (t.zero nq_126) 18 (fun _ _ z_ => fw_18 _ z_)) mk_X5_init rfl w_170 w_171 w_172 ⟨Nat.le_of_ble_eq_true rfl, Nat.le_of_ble_eq_true rfl⟩ rfl (Nat.le_of_ble_eq_true rfl) ⟨Nat.le_of_ble_eq_true rfl, Nat.le_of_ble_eq_true rfl⟩ rfl dX0_init_52) h (fun f_127 H locs hp h => ?_)
              obtain ⟨τ_128, t1_, G1_, tq_126, pxq_126⟩ := hp
              obtain ⟨a_, na_, ka_, ta_⟩ := pxq_126
              have ex_ := (gw_call t nq_126 G1_).1
              obtain ⟨kb_, ls1_⟩ := LSh.step ls_ t t1_ nq_126 G1_ tq_126 ta_ (hu_none na_) ka_ (bq_69.tg trq_69 (by decide)) (bq_73.tg trq_73 (by decide)) (Int32.toNatClampNeg 5) rfl
              have zb_ : τ_128 q_77 = 0 := ls1_.2.1
              have ls_ := ls1_
              obtain ⟨kx, zx, gx, gw_⟩ := st_call t kx zx gx nq_126 G1_
              have t := t1_
              have bq_69 := bq_69.tr gw_
              have bq_73 := bq_73.tr gw_
              refine q_aast C h 3 6 (rr := (RX5, TX5, 2)) rfl rfl kb_ ka_ (vp_in_iff.mpr ⟨by decide, by decide⟩) dX0_init_55 (fun H locs h => ?_)
              obtain ⟨f_129, ef_, t, kx, gx, gw_⟩ := st_raw t kx gx zb_ dx_ nb_ (.inl (G 3, 12, .inr (.inr (.inr (.inr (va_up ρ_124 (Int32.toNatClampNeg 5) (some q_126)))))))
              rw [ef_] at h ls_
              have bq_69 := bq_69.tr gw_
              have bq_73 := bq_73.tr gw_
              obtain ⟨ρ_133, sh_131, qs_132, er_, ls_⟩ : ∃ ρ_ sh_ qs_, (va_up ρ_124 (Int32.toNatClampNeg 5) (some q_126)) = ρ_ ∧ LSh G τ_128 f_129 q_77 rq_69 rq_73 6 ρ_ sh_ qs_ := ⟨_, _, _, rfl, ls_⟩
              have kb_ := ls_.1
              refine lv_iinc (v := 6) (lv' := [(1, .int 6), (0, .ref x)]) hx hb dX0_init_56 hl (k := 0) rfl (by decide) (by decide) rfl (fun ls hl => ?_)
              refine lv_goto (tgt := 37) hx hb dX0_init_59 (by decide) ?_
              refine lv_iload_n hx hb dX0_init_37 rfl (lv_at hl 0 rfl) ?_
              refine lv_bipush (v := 12) hx hb dX0_init_38 (by decide) ?_
              refine lv_icmp_ge (tgt := 62) hx hb dX0_init_40 (by decide) (fun c_134 => ?_) (fun c_134 => ?_)
              · exact absurd c_134 (by decide)
              · skip
                refine lv_aload_n hx hb dX0_init_43 rfl (lv_at hl 1 rfl) ?_
                refine q_get C h kx fl_X0_21 (v := .ref q_77) rfl dX0_init_44 ?_
                refine lv_iload_n hx hb dX0_init_47 rfl (lv_at hl 0 rfl) ?_
                refine q_new C h nw_X0_9 (Nat.le_of_ble_eq_true rfl) (Nat.le_of_ble_eq_true rfl) dX0_init_48 (fun q_135 H nq_135 h => ?_)
                refine lv_dup hx hb dX0_init_51 rfl ?_
                refine k_v (r_I C h hl (As := []) (rest := [.ref q_135, .int 6, .ref q_77]) (k_X5_init l D G b0 (t.raw (t.zero nq_135)) q_135 (hu_self _ _ _) (t.zero nq_135) 18 (fun _ _ z_ => fw_18 _ z_)) mk_X5_init rfl w_170 w_171 w_172 ⟨Nat.le_of_ble_eq_true rfl, Nat.le_of_ble_eq_true rfl⟩ rfl (Nat.le_of_ble_eq_true rfl) ⟨Nat.le_of_ble_eq_true rfl, Nat.le_of_ble_eq_true rfl⟩ rfl dX0_init_52) h (fun f_136 H locs hp h => ?_)
                obtain ⟨τ_137, t1_, G1_, tq_135, pxq_135⟩ := hp
                obtain ⟨a_, na_, ka_, ta_⟩ := pxq_135
                have ex_ := (gw_call t nq_135 G1_).1
                obtain ⟨kb_, ls1_⟩ := LSh.step ls_ t t1_ nq_135 G1_ tq_135 ta_ (hu_none na_) ka_ (bq_69.tg trq_69 (by decide)) (bq_73.tg trq_73 (by decide)) (Int32.toNatClampNeg 6) rfl
                have zb_ : τ_137 q_77 = 0 := ls1_.2.1
                have ls_ := ls1_
                obtain ⟨kx, zx, gx, gw_⟩ := st_call t kx zx gx nq_135 G1_
                have t := t1_
                have bq_69 := bq_69.tr gw_
                have bq_73 := bq_73.tr gw_
                refine q_aast C h 3 6 (rr := (RX5, TX5, 2)) rfl rfl kb_ ka_ (vp_in_iff.mpr ⟨by decide, by decide⟩) dX0_init_55 (fun H locs h => ?_)
                obtain ⟨f_138, ef_, t, kx, gx, gw_⟩ := st_raw t kx gx zb_ dx_ nb_ (.inl (G 3, 12, .inr (.inr (.inr (.inr (va_up ρ_133 (Int32.toNatClampNeg 6) (some q_135)))))))
                rw [ef_] at h ls_
                have bq_69 := bq_69.tr gw_
                have bq_73 := bq_73.tr gw_
                obtain ⟨ρ_142, sh_140, qs_141, er_, ls_⟩ : ∃ ρ_ sh_ qs_, (va_up ρ_133 (Int32.toNatClampNeg 6) (some q_135)) = ρ_ ∧ LSh G τ_137 f_138 q_77 rq_69 rq_73 7 ρ_ sh_ qs_ := ⟨_, _, _, rfl, ls_⟩
                have kb_ := ls_.1
                refine lv_iinc (v := 7) (lv' := [(1, .int 7), (0, .ref x)]) hx hb dX0_init_56 hl (k := 0) rfl (by decide) (by decide) rfl (fun ls hl => ?_)
                refine lv_goto (tgt := 37) hx hb dX0_init_59 (by decide) ?_
                refine lv_iload_n hx hb dX0_init_37 rfl (lv_at hl 0 rfl) ?_
                refine lv_bipush (v := 12) hx hb dX0_init_38 (by decide) ?_
                refine lv_icmp_ge (tgt := 62) hx hb dX0_init_40 (by decide) (fun c_143 => ?_) (fun c_143 => ?_)
                · exact absurd c_143 (by decide)
                · skip
                  refine lv_aload_n hx hb dX0_init_43 rfl (lv_at hl 1 rfl) ?_
                  refine q_get C h kx fl_X0_21 (v := .ref q_77) rfl dX0_init_44 ?_
                  refine lv_iload_n hx hb dX0_init_47 rfl (lv_at hl 0 rfl) ?_
                  refine q_new C h nw_X0_9 (Nat.le_of_ble_eq_true rfl) (Nat.le_of_ble_eq_true rfl) dX0_init_48 (fun q_144 H nq_144 h => ?_)
                  refine lv_dup hx hb dX0_init_51 rfl ?_
                  refine k_v (r_I C h hl (As := []) (rest := [.ref q_144, .int 7, .ref q_77]) (k_X5_init l D G b0 (t.raw (t.zero nq_144)) q_144 (hu_self _ _ _) (t.zero nq_144) 18 (fun _ _ z_ => fw_18 _ z_)) mk_X5_init rfl w_170 w_171 w_172 ⟨Nat.le_of_ble_eq_true rfl, Nat.le_of_ble_eq_true rfl⟩ rfl (Nat.le_of_ble_eq_true rfl) ⟨Nat.le_of_ble_eq_true rfl, Nat.le_of_ble_eq_true rfl⟩ rfl dX0_init_52) h (fun f_145 H locs hp h => ?_)
                  obtain ⟨τ_146, t1_, G1_, tq_144, pxq_144⟩ := hp
                  obtain ⟨a_, na_, ka_, ta_⟩ := pxq_144
                  have ex_ := (gw_call t nq_144 G1_).1
                  obtain ⟨kb_, ls1_⟩ := LSh.step ls_ t t1_ nq_144 G1_ tq_144 ta_ (hu_none na_) ka_ (bq_69.tg trq_69 (by decide)) (bq_73.tg trq_73 (by decide)) (Int32.toNatClampNeg 7) rfl
                  have zb_ : τ_146 q_77 = 0 := ls1_.2.1
                  have ls_ := ls1_
                  obtain ⟨kx, zx, gx, gw_⟩ := st_call t kx zx gx nq_144 G1_
                  have t := t1_
                  have bq_69 := bq_69.tr gw_
                  have bq_73 := bq_73.tr gw_
                  refine q_aast C h 3 6 (rr := (RX5, TX5, 2)) rfl rfl kb_ ka_ (vp_in_iff.mpr ⟨by decide, by decide⟩) dX0_init_55 (fun H locs h => ?_)
                  obtain ⟨f_147, ef_, t, kx, gx, gw_⟩ := st_raw t kx gx zb_ dx_ nb_ (.inl (G 3, 12, .inr (.inr (.inr (.inr (va_up ρ_142 (Int32.toNatClampNeg 7) (some q_144)))))))
                  rw [ef_] at h ls_
                  have bq_69 := bq_69.tr gw_
                  have bq_73 := bq_73.tr gw_
                  obtain ⟨ρ_151, sh_149, qs_150, er_, ls_⟩ : ∃ ρ_ sh_ qs_, (va_up ρ_142 (Int32.toNatClampNeg 7) (some q_144)) = ρ_ ∧ LSh G τ_146 f_147 q_77 rq_69 rq_73 8 ρ_ sh_ qs_ := ⟨_, _, _, rfl, ls_⟩
                  have kb_ := ls_.1
                  refine lv_iinc (v := 8) (lv' := [(1, .int 8), (0, .ref x)]) hx hb dX0_init_56 hl (k := 0) rfl (by decide) (by decide) rfl (fun ls hl => ?_)
                  refine lv_goto (tgt := 37) hx hb dX0_init_59 (by decide) ?_
                  refine lv_iload_n hx hb dX0_init_37 rfl (lv_at hl 0 rfl) ?_
                  refine lv_bipush (v := 12) hx hb dX0_init_38 (by decide) ?_
                  refine lv_icmp_ge (tgt := 62) hx hb dX0_init_40 (by decide) (fun c_152 => ?_) (fun c_152 => ?_)
                  · exact absurd c_152 (by decide)
                  · skip
                    refine lv_aload_n hx hb dX0_init_43 rfl (lv_at hl 1 rfl) ?_
                    refine q_get C h kx fl_X0_21 (v := .ref q_77) rfl dX0_init_44 ?_
                    refine lv_iload_n hx hb dX0_init_47 rfl (lv_at hl 0 rfl) ?_
                    refine q_new C h nw_X0_9 (Nat.le_of_ble_eq_true rfl) (Nat.le_of_ble_eq_true rfl) dX0_init_48 (fun q_153 H nq_153 h => ?_)
                    refine lv_dup hx hb dX0_init_51 rfl ?_
                    refine k_v (r_I C h hl (As := []) (rest := [.ref q_153, .int 8, .ref q_77]) (k_X5_init l D G b0 (t.raw (t.zero nq_153)) q_153 (hu_self _ _ _) (t.zero nq_153) 18 (fun _ _ z_ => fw_18 _ z_)) mk_X5_init rfl w_170 w_171 w_172 ⟨Nat.le_of_ble_eq_true rfl, Nat.le_of_ble_eq_true rfl⟩ rfl (Nat.le_of_ble_eq_true rfl) ⟨Nat.le_of_ble_eq_true rfl, Nat.le_of_ble_eq_true rfl⟩ rfl dX0_init_52) h (fun f_154 H locs hp h => ?_)
                    obtain ⟨τ_155, t1_, G1_, tq_153, pxq_153⟩ := hp
                    obtain ⟨a_, na_, ka_, ta_⟩ := pxq_153
                    have ex_ := (gw_call t nq_153 G1_).1
                    obtain ⟨kb_, ls1_⟩ := LSh.step ls_ t t1_ nq_153 G1_ tq_153 ta_ (hu_none na_) ka_ (bq_69.tg trq_69 (by decide)) (bq_73.tg trq_73 (by decide)) (Int32.toNatClampNeg 8) rfl
                    have zb_ : τ_155 q_77 = 0 := ls1_.2.1
                    have ls_ := ls1_
                    obtain ⟨kx, zx, gx, gw_⟩ := st_call t kx zx gx nq_153 G1_
                    have t := t1_
                    have bq_69 := bq_69.tr gw_
                    have bq_73 := bq_73.tr gw_
                    refine q_aast C h 3 6 (rr := (RX5, TX5, 2)) rfl rfl kb_ ka_ (vp_in_iff.mpr ⟨by decide, by decide⟩) dX0_init_55 (fun H locs h => ?_)
                    obtain ⟨f_156, ef_, t, kx, gx, gw_⟩ := st_raw t kx gx zb_ dx_ nb_ (.inl (G 3, 12, .inr (.inr (.inr (.inr (va_up ρ_151 (Int32.toNatClampNeg 8) (some q_153)))))))
                    rw [ef_] at h ls_
                    have bq_69 := bq_69.tr gw_
                    have bq_73 := bq_73.tr gw_
                    obtain ⟨ρ_160, sh_158, qs_159, er_, ls_⟩ : ∃ ρ_ sh_ qs_, (va_up ρ_151 (Int32.toNatClampNeg 8) (some q_153)) = ρ_ ∧ LSh G τ_155 f_156 q_77 rq_69 rq_73 9 ρ_ sh_ qs_ := ⟨_, _, _, rfl, ls_⟩
                    have kb_ := ls_.1
                    refine lv_iinc (v := 9) (lv' := [(1, .int 9), (0, .ref x)]) hx hb dX0_init_56 hl (k := 0) rfl (by decide) (by decide) rfl (fun ls hl => ?_)
                    refine lv_goto (tgt := 37) hx hb dX0_init_59 (by decide) ?_
                    refine lv_iload_n hx hb dX0_init_37 rfl (lv_at hl 0 rfl) ?_
                    refine lv_bipush (v := 12) hx hb dX0_init_38 (by decide) ?_
                    refine lv_icmp_ge (tgt := 62) hx hb dX0_init_40 (by decide) (fun c_161 => ?_) (fun c_161 => ?_)
                    · exact absurd c_161 (by decide)
                    · skip
                      refine lv_aload_n hx hb dX0_init_43 rfl (lv_at hl 1 rfl) ?_
                      refine q_get C h kx fl_X0_21 (v := .ref q_77) rfl dX0_init_44 ?_
                      refine lv_iload_n hx hb dX0_init_47 rfl (lv_at hl 0 rfl) ?_
                      refine q_new C h nw_X0_9 (Nat.le_of_ble_eq_true rfl) (Nat.le_of_ble_eq_true rfl) dX0_init_48 (fun q_162 H nq_162 h => ?_)
                      refine lv_dup hx hb dX0_init_51 rfl ?_
                      refine k_v (r_I C h hl (As := []) (rest := [.ref q_162, .int 9, .ref q_77]) (k_X5_init l D G b0 (t.raw (t.zero nq_162)) q_162 (hu_self _ _ _) (t.zero nq_162) 18 (fun _ _ z_ => fw_18 _ z_)) mk_X5_init rfl w_170 w_171 w_172 ⟨Nat.le_of_ble_eq_true rfl, Nat.le_of_ble_eq_true rfl⟩ rfl (Nat.le_of_ble_eq_true rfl) ⟨Nat.le_of_ble_eq_true rfl, Nat.le_of_ble_eq_true rfl⟩ rfl dX0_init_52) h (fun f_163 H locs hp h => ?_)
                      obtain ⟨τ_164, t1_, G1_, tq_162, pxq_162⟩ := hp
                      obtain ⟨a_, na_, ka_, ta_⟩ := pxq_162
                      have ex_ := (gw_call t nq_162 G1_).1
                      obtain ⟨kb_, ls1_⟩ := LSh.step ls_ t t1_ nq_162 G1_ tq_162 ta_ (hu_none na_) ka_ (bq_69.tg trq_69 (by decide)) (bq_73.tg trq_73 (by decide)) (Int32.toNatClampNeg 9) rfl
                      have zb_ : τ_164 q_77 = 0 := ls1_.2.1
                      have ls_ := ls1_
                      obtain ⟨kx, zx, gx, gw_⟩ := st_call t kx zx gx nq_162 G1_
                      have t := t1_
                      have bq_69 := bq_69.tr gw_
                      have bq_73 := bq_73.tr gw_
                      refine q_aast C h 3 6 (rr := (RX5, TX5, 2)) rfl rfl kb_ ka_ (vp_in_iff.mpr ⟨by decide, by decide⟩) dX0_init_55 (fun H locs h => ?_)
                      obtain ⟨f_165, ef_, t, kx, gx, gw_⟩ := st_raw t kx gx zb_ dx_ nb_ (.inl (G 3, 12, .inr (.inr (.inr (.inr (va_up ρ_160 (Int32.toNatClampNeg 9) (some q_162)))))))
                      rw [ef_] at h ls_
                      have bq_69 := bq_69.tr gw_
                      have bq_73 := bq_73.tr gw_
                      obtain ⟨ρ_169, sh_167, qs_168, er_, ls_⟩ : ∃ ρ_ sh_ qs_, (va_up ρ_160 (Int32.toNatClampNeg 9) (some q_162)) = ρ_ ∧ LSh G τ_164 f_165 q_77 rq_69 rq_73 10 ρ_ sh_ qs_ := ⟨_, _, _, rfl, ls_⟩
                      have kb_ := ls_.1
                      refine lv_iinc (v := 10) (lv' := [(1, .int 10), (0, .ref x)]) hx hb dX0_init_56 hl (k := 0) rfl (by decide) (by decide) rfl (fun ls hl => ?_)
                      refine lv_goto (tgt := 37) hx hb dX0_init_59 (by decide) ?_
                      refine lv_iload_n hx hb dX0_init_37 rfl (lv_at hl 0 rfl) ?_
                      refine lv_bipush (v := 12) hx hb dX0_init_38 (by decide) ?_
                      refine lv_icmp_ge (tgt := 62) hx hb dX0_init_40 (by decide) (fun c_170 => ?_) (fun c_170 => ?_)
                      · exact absurd c_170 (by decide)
                      · skip
                        refine lv_aload_n hx hb dX0_init_43 rfl (lv_at hl 1 rfl) ?_
                        refine q_get C h kx fl_X0_21 (v := .ref q_77) rfl dX0_init_44 ?_
                        refine lv_iload_n hx hb dX0_init_47 rfl (lv_at hl 0 rfl) ?_
                        refine q_new C h nw_X0_9 (Nat.le_of_ble_eq_true rfl) (Nat.le_of_ble_eq_true rfl) dX0_init_48 (fun q_171 H nq_171 h => ?_)
                        refine lv_dup hx hb dX0_init_51 rfl ?_
                        refine k_v (r_I C h hl (As := []) (rest := [.ref q_171, .int 10, .ref q_77]) (k_X5_init l D G b0 (t.raw (t.zero nq_171)) q_171 (hu_self _ _ _) (t.zero nq_171) 18 (fun _ _ z_ => fw_18 _ z_)) mk_X5_init rfl w_170 w_171 w_172 ⟨Nat.le_of_ble_eq_true rfl, Nat.le_of_ble_eq_true rfl⟩ rfl (Nat.le_of_ble_eq_true rfl) ⟨Nat.le_of_ble_eq_true rfl, Nat.le_of_ble_eq_true rfl⟩ rfl dX0_init_52) h (fun f_172 H locs hp h => ?_)
                        obtain ⟨τ_173, t1_, G1_, tq_171, pxq_171⟩ := hp
                        obtain ⟨a_, na_, ka_, ta_⟩ := pxq_171
                        have ex_ := (gw_call t nq_171 G1_).1
                        obtain ⟨kb_, ls1_⟩ := LSh.step ls_ t t1_ nq_171 G1_ tq_171 ta_ (hu_none na_) ka_ (bq_69.tg trq_69 (by decide)) (bq_73.tg trq_73 (by decide)) (Int32.toNatClampNeg 10) rfl
                        have zb_ : τ_173 q_77 = 0 := ls1_.2.1
                        have ls_ := ls1_
                        obtain ⟨kx, zx, gx, gw_⟩ := st_call t kx zx gx nq_171 G1_
                        have t := t1_
                        have bq_69 := bq_69.tr gw_
                        have bq_73 := bq_73.tr gw_
                        refine q_aast C h 3 6 (rr := (RX5, TX5, 2)) rfl rfl kb_ ka_ (vp_in_iff.mpr ⟨by decide, by decide⟩) dX0_init_55 (fun H locs h => ?_)
                        obtain ⟨f_174, ef_, t, kx, gx, gw_⟩ := st_raw t kx gx zb_ dx_ nb_ (.inl (G 3, 12, .inr (.inr (.inr (.inr (va_up ρ_169 (Int32.toNatClampNeg 10) (some q_171)))))))
                        rw [ef_] at h ls_
                        have bq_69 := bq_69.tr gw_
                        have bq_73 := bq_73.tr gw_
                        obtain ⟨ρ_178, sh_176, qs_177, er_, ls_⟩ : ∃ ρ_ sh_ qs_, (va_up ρ_169 (Int32.toNatClampNeg 10) (some q_171)) = ρ_ ∧ LSh G τ_173 f_174 q_77 rq_69 rq_73 11 ρ_ sh_ qs_ := ⟨_, _, _, rfl, ls_⟩
                        have kb_ := ls_.1
                        refine lv_iinc (v := 11) (lv' := [(1, .int 11), (0, .ref x)]) hx hb dX0_init_56 hl (k := 0) rfl (by decide) (by decide) rfl (fun ls hl => ?_)
                        refine lv_goto (tgt := 37) hx hb dX0_init_59 (by decide) ?_
                        refine lv_iload_n hx hb dX0_init_37 rfl (lv_at hl 0 rfl) ?_
                        refine lv_bipush (v := 12) hx hb dX0_init_38 (by decide) ?_
                        refine lv_icmp_ge (tgt := 62) hx hb dX0_init_40 (by decide) (fun c_179 => ?_) (fun c_179 => ?_)
                        · exact absurd c_179 (by decide)
                        · skip
                          refine lv_aload_n hx hb dX0_init_43 rfl (lv_at hl 1 rfl) ?_
                          refine q_get C h kx fl_X0_21 (v := .ref q_77) rfl dX0_init_44 ?_
                          refine lv_iload_n hx hb dX0_init_47 rfl (lv_at hl 0 rfl) ?_
                          refine q_new C h nw_X0_9 (Nat.le_of_ble_eq_true rfl) (Nat.le_of_ble_eq_true rfl) dX0_init_48 (fun q_180 H nq_180 h => ?_)
                          refine lv_dup hx hb dX0_init_51 rfl ?_
                          refine k_v (r_I C h hl (As := []) (rest := [.ref q_180, .int 11, .ref q_77]) (k_X5_init l D G b0 (t.raw (t.zero nq_180)) q_180 (hu_self _ _ _) (t.zero nq_180) 18 (fun _ _ z_ => fw_18 _ z_)) mk_X5_init rfl w_170 w_171 w_172 ⟨Nat.le_of_ble_eq_true rfl, Nat.le_of_ble_eq_true rfl⟩ rfl (Nat.le_of_ble_eq_true rfl) ⟨Nat.le_of_ble_eq_true rfl, Nat.le_of_ble_eq_true rfl⟩ rfl dX0_init_52) h (fun f_181 H locs hp h => ?_)
                          obtain ⟨τ_182, t1_, G1_, tq_180, pxq_180⟩ := hp
                          obtain ⟨a_, na_, ka_, ta_⟩ := pxq_180
                          have ex_ := (gw_call t nq_180 G1_).1
                          obtain ⟨kb_, ls1_⟩ := LSh.step ls_ t t1_ nq_180 G1_ tq_180 ta_ (hu_none na_) ka_ (bq_69.tg trq_69 (by decide)) (bq_73.tg trq_73 (by decide)) (Int32.toNatClampNeg 11) rfl
                          have zb_ : τ_182 q_77 = 0 := ls1_.2.1
                          have ls_ := ls1_
                          obtain ⟨kx, zx, gx, gw_⟩ := st_call t kx zx gx nq_180 G1_
                          have t := t1_
                          have bq_69 := bq_69.tr gw_
                          have bq_73 := bq_73.tr gw_
                          refine q_aast C h 3 6 (rr := (RX5, TX5, 2)) rfl rfl kb_ ka_ (vp_in_iff.mpr ⟨by decide, by decide⟩) dX0_init_55 (fun H locs h => ?_)
                          obtain ⟨f_183, ef_, t, kx, gx, gw_⟩ := st_raw t kx gx zb_ dx_ nb_ (.inl (G 3, 12, .inr (.inr (.inr (.inr (va_up ρ_178 (Int32.toNatClampNeg 11) (some q_180)))))))
                          rw [ef_] at h ls_
                          have bq_69 := bq_69.tr gw_
                          have bq_73 := bq_73.tr gw_
                          obtain ⟨ρ_187, sh_185, qs_186, er_, ls_⟩ : ∃ ρ_ sh_ qs_, (va_up ρ_178 (Int32.toNatClampNeg 11) (some q_180)) = ρ_ ∧ LSh G τ_182 f_183 q_77 rq_69 rq_73 12 ρ_ sh_ qs_ := ⟨_, _, _, rfl, ls_⟩
                          have kb_ := ls_.1
                          refine lv_iinc (v := 12) (lv' := [(1, .int 12), (0, .ref x)]) hx hb dX0_init_56 hl (k := 0) rfl (by decide) (by decide) rfl (fun ls hl => ?_)
                          refine lv_goto (tgt := 37) hx hb dX0_init_59 (by decide) ?_
                          refine lv_iload_n hx hb dX0_init_37 rfl (lv_at hl 0 rfl) ?_
                          refine lv_bipush (v := 12) hx hb dX0_init_38 (by decide) ?_
                          refine lv_icmp_ge (tgt := 62) hx hb dX0_init_40 (by decide) (fun c_188 => ?_) (fun c_188 => ?_)
                          · skip
                            have wb_ : wf G 9 τ_182 17 (.inl (G 3, 12, .inr (.inr (.inr (.inr ρ_187))))) := fw_17 _ ⟨_, rfl, fun j_ hj_ => ⟨_, (ls_.2.2.1 j_ hj_).1, (ls_.2.2.1 j_ hj_).2.1⟩⟩
                            have tb0_ := TI.tag t zb_ kb_ wb_
                            have gwb_ : Gw τ_182 f_183 (tu τ_182 q_77 17) f_183 := ⟨tuEx zb_, Fr.rf _ _ _⟩
                            have gx : Gx x τ0 (tu τ_182 q_77 17) f0 f_183 := fun a_ h1_ h2_ => ⟨(gx a_ h1_ h2_).1, (if_neg (fun z_ => h2_ (by rw [z_]; exact nb_))).trans (gx a_ h1_ h2_).2⟩
                            have zx : tu τ_182 q_77 17 x = 0 := (if_neg dx_).trans zx
                            have t := tb0_
                            have bq_69 := bq_69.tr gwb_
                            have bq_73 := bq_73.tr gwb_
                            have gwe_ := gwb_
                            obtain ⟨τ_189, et_⟩ : ∃ z_, tu τ_182 q_77 17 = z_ := ⟨_, rfl⟩
                            have tb_ : τ_189 q_77 = 17 := by rw [← et_]; exact tu_self _ _ _
                            rw [et_] at t gx zx gwe_ bq_69 bq_73
                            have bb_ := Gw.rf τ_189 f_183
                            have wf_ : wf G 9 τ_189 12 (.inr (1, [.int 0, .ref q_69, .ref q_73, .ref q_77, .int 0, .int 0])) := fw_12 _ ⟨_, rfl, rfl, fun k_ T_ hk_ => by
                              match k_, hk_ with
                              | 0, hk_ => cases hk_; exact ⟨_, rfl, _, rfl, ⟨by decide, by decide⟩⟩
                              | 1, hk_ => cases hk_; exact ⟨_, rfl, _, rfl, bq_69.tg tq_69 (by decide)⟩
                              | 2, hk_ => cases hk_; exact ⟨_, rfl, _, rfl, bq_73.tg tq_73 (by decide)⟩
                              | 3, hk_ => cases hk_; exact ⟨_, rfl, _, rfl, bb_.tg tb_ (by decide)⟩
                              | 4, hk_ => cases hk_; exact ⟨_, rfl, _, rfl, ⟨by decide, by decide⟩⟩
                              | 5, hk_ => cases hk_; exact ⟨_, rfl, _, rfl, ⟨by decide, by decide⟩⟩
                              | k_ + 6, hk_ => simp at hk_⟩
                            obtain ⟨τe_, t, gx, gw_, tx_⟩ := st_tag t kx zx gx wf_
                            have bq_69 := bq_69.tr gw_
                            have bq_73 := bq_73.tr gw_
                            have bb_ := bb_.tr gw_
                            have gwe_ := gwe_.tr gw_
                            obtain ⟨lb_, -, l1_, l2_, l3_⟩ := ls_
                            exact q_vret C h hr (⟨_, t, gx, tx_, (fun i => ([0, 0, 0, 0, x, 0, q_69, rq_69, q_73, rq_73, q_77] : List Nat).getD i 0), _, _, ⟨rfl, bq_69.tg tq_69 (by decide), bq_69.tg trq_69 (by decide), bq_73.tg tq_73 (by decide), bq_73.tg trq_73 (by decide), bb_.tg tb_ (by decide)⟩, ⟨⟨_, kx, _, _, rfl, rfl⟩, ⟨_, kx, _, _, rfl, rfl⟩, ⟨_, kx, _, _, rfl, rfl⟩, ⟨_, kx, _, _, rfl, rfl⟩, ⟨_, kx, _, _, rfl, rfl⟩, ⟨_, kx, _, _, rfl, rfl⟩, bq_69.at tq_69 (by decide) ⟨_, krq_69, _, _, rfl, rfl⟩, bq_69.at tq_69 (by decide) ⟨_, krq_69, _, _, rfl, rfl⟩, bq_73.at tq_73 (by decide) ⟨_, krq_73, _, _, rfl, rfl⟩⟩, ⟨_, ⟨_, lb_, rfl⟩, fun j hj => (l1_ j hj).1⟩, fun j hj => ⟨gwe_.1.at (l1_ j hj).2.1 (by decide), gwe_.1.at (l1_ j hj).2.2.1 (by decide), (l1_ j hj).2.2.2⟩, ⟨dr_, fun j hj => l2_ j hj⟩, l3_⟩) (Nat.le_of_ble_eq_true rfl) (Nat.le_of_ble_eq_true rfl) dX0_init_62
                          · exact absurd (by decide) c_188
set_option maxRecDepth 100000 in
set_option maxHeartbeats 4000000 in
theorem k_X10_init (l : Launch) (D : va_G) (G : Nat → Nat) (b0 : Nat) {τ0 : Nat → Nat} {f0 : hM} (t : TI G 9 τ0 f0) (x : Nat) (kx : f0 x = some (.inr (11, [.null, .null, .null, .null, .null, .null, .null, .null, .null, .null]))) (zx : τ0 x = 0) : mV l yX10_init cX10_init 1 { frames := 3, cells := 101, slots := 41750, locals := 53 } D G b0 f0 [.ref x] (fun f1 => ∃ τ1, TI G 9 τ1 f1 ∧ Gx x τ0 τ1 f0 f1 ∧ τ1 x = 10 ∧ ∃ K sh qs : Nat → Nat, K 0 = x ∧ XK G τ1 f1 K sh qs ∧ GJ τ1 f1 (K 11) (K 12) (K 13) ∧ atp f1 (K 1) (fd 0 (.int 0)) ∧ atp f1 (K 4) (fd 0 (.int 0)) ∧ atp f1 (K 4) (fd 4 (.int 0)) ∧ atp f1 (K 4) (fd 5 (.int 0)) ∧ atp f1 (K 6) (fd 1 (.int 0)) ∧ atp f1 (K 5) (eqc (.inl (G 1, 4, .inl (fun _ => 0))))) := by
  refine met_of (own := RX10) (by decide) rfl (Nat.le_of_ble_eq_true rfl) ?_
  intro p e s m below meth c ls C hr hini hl h
  have hl : lv_has ls 1 [(0, .ref x)] := hl
  obtain ⟨hx, hb, hml, hown, hts, hE0, hlk⟩ := id C
  have gx := Gx.rf x τ0 f0
  refine lv_aload_n hx hb dX10_init_0 rfl (lv_at hl 0 rfl) ?_
  refine W.objInit hx hb hown (hts _ w_129) (hts _ w_130) (hts _ w_131) rfl (hl.1.trans hml.symm) rfl dX10_init_1 (Nat.le_of_ble_eq_true rfl) (Nat.le_of_ble_eq_true rfl) ?_
  show W _ _ _ _ _ _ _ _ _ _ _ _ _ _ _ (F0 m 4 ls [])
  refine lv_aload_n hx hb dX10_init_4 rfl (lv_at hl 0 rfl) ?_
  refine q_new C h nw_X10_9 (Nat.le_of_ble_eq_true rfl) (Nat.le_of_ble_eq_true rfl) dX10_init_5 (fun q_190 H nq_190 h => ?_)
  refine lv_dup hx hb dX10_init_8 rfl ?_
  refine k_v (r_I C h hl (As := []) (rest := [.ref q_190, .ref x]) (k_X7_init l D G b0 (t.raw (t.zero nq_190)) q_190 (hu_self _ _ _) (t.zero nq_190)) mk_X7_init rfl w_134 w_135 w_136 ⟨Nat.le_of_ble_eq_true rfl, Nat.le_of_ble_eq_true rfl⟩ rfl (Nat.le_of_ble_eq_true rfl) ⟨Nat.le_of_ble_eq_true rfl, Nat.le_of_ble_eq_true rfl⟩ rfl dX10_init_9) h (fun f_191 H locs hp h => ?_)
  obtain ⟨τ_192, t1_, G1_, tq_190, pxq_190⟩ := hp
  obtain ⟨kx, zx, gx, gw_⟩ := st_call t kx zx gx nq_190 G1_
  have t := t1_
  have bq_190 := Gw.rf τ_192 f_191
  refine q_put C h kx flw_X10_12 (Or.inl hini) (v := .ref q_190) rfl rfl (Nat.le_of_ble_eq_true rfl) dX10_init_12 (fun H locs h => ?_)
  have h : hw D b0 s.heap (hu f_191 x (.inr (11, [.ref q_190, .null, .null, .null, .null, .null, .null, .null, .null, .null]))) H locs := h
  obtain ⟨f_193, ef_, t, kx, gx, gw_⟩ := st_put t zx gx (.inr (11, [.ref q_190, .null, .null, .null, .null, .null, .null, .null, .null, .null]))
  rw [ef_] at h
  have bq_190 := bq_190.tr gw_
  refine lv_aload_n hx hb dX10_init_15 rfl (lv_at hl 0 rfl) ?_
  refine q_new C h nw_X10_16 (Nat.le_of_ble_eq_true rfl) (Nat.le_of_ble_eq_true rfl) dX10_init_16 (fun q_194 H nq_194 h => ?_)
  refine lv_dup hx hb dX10_init_19 rfl ?_
  refine k_v (r_I C h hl (As := []) (rest := [.ref q_194, .ref x]) (k_X0_init l D G b0 (t.raw (t.zero nq_194)) q_194 (hu_self _ _ _) (t.zero nq_194)) mk_X0_init rfl w_164 w_165 w_166 ⟨Nat.le_of_ble_eq_true rfl, Nat.le_of_ble_eq_true rfl⟩ rfl (Nat.le_of_ble_eq_true rfl) ⟨Nat.le_of_ble_eq_true rfl, Nat.le_of_ble_eq_true rfl⟩ rfl dX10_init_20) h (fun f_195 H locs hp h => ?_)
  obtain ⟨τ_196, t1_, G1_, tq_194, pxq_194⟩ := hp
  obtain ⟨kx, zx, gx, gw_⟩ := st_call t kx zx gx nq_194 G1_
  have t := t1_
  have bq_190 := bq_190.tr gw_
  have bq_194 := Gw.rf τ_196 f_195
  refine q_put C h kx flw_X10_19 (Or.inl hini) (v := .ref q_194) rfl rfl (Nat.le_of_ble_eq_true rfl) dX10_init_23 (fun H locs h => ?_)
  have h : hw D b0 s.heap (hu f_195 x (.inr (11, [.ref q_190, .ref q_194, .null, .null, .null, .null, .null, .null, .null, .null]))) H locs := h
  obtain ⟨f_197, ef_, t, kx, gx, gw_⟩ := st_put t zx gx (.inr (11, [.ref q_190, .ref q_194, .null, .null, .null, .null, .null, .null, .null, .null]))
  rw [ef_] at h
  have bq_190 := bq_190.tr gw_
  have bq_194 := bq_194.tr gw_
  refine lv_aload_n hx hb dX10_init_26 rfl (lv_at hl 0 rfl) ?_
  refine q_new C h nw_X10_23 (Nat.le_of_ble_eq_true rfl) (Nat.le_of_ble_eq_true rfl) dX10_init_27 (fun q_198 H nq_198 h => ?_)
  refine lv_dup hx hb dX10_init_30 rfl ?_
  refine k_v (r_I C h hl (As := []) (rest := [.ref q_198, .ref x]) (k_X2_init l D G b0 (t.raw (t.zero nq_198)) q_198 (hu_self _ _ _) (t.zero nq_198)) mk_X2_init rfl w_208 w_209 w_210 ⟨Nat.le_of_ble_eq_true rfl, Nat.le_of_ble_eq_true rfl⟩ rfl (Nat.le_of_ble_eq_true rfl) ⟨Nat.le_of_ble_eq_true rfl, Nat.le_of_ble_eq_true rfl⟩ rfl dX10_init_31) h (fun f_199 H locs hp h => ?_)
  obtain ⟨τ_200, t1_, G1_, tq_198, pxq_198⟩ := hp
  obtain ⟨kx, zx, gx, gw_⟩ := st_call t kx zx gx nq_198 G1_
  have t := t1_
  have bq_190 := bq_190.tr gw_
  have bq_194 := bq_194.tr gw_
  have bq_198 := Gw.rf τ_200 f_199
  refine q_put C h kx flw_X10_26 (Or.inl hini) (v := .ref q_198) rfl rfl (Nat.le_of_ble_eq_true rfl) dX10_init_34 (fun H locs h => ?_)
  have h : hw D b0 s.heap (hu f_199 x (.inr (11, [.ref q_190, .ref q_194, .ref q_198, .null, .null, .null, .null, .null, .null, .null]))) H locs := h
  obtain ⟨f_201, ef_, t, kx, gx, gw_⟩ := st_put t zx gx (.inr (11, [.ref q_190, .ref q_194, .ref q_198, .null, .null, .null, .null, .null, .null, .null]))
  rw [ef_] at h
  have bq_190 := bq_190.tr gw_
  have bq_194 := bq_194.tr gw_
  have bq_198 := bq_198.tr gw_
  refine lv_aload_n hx hb dX10_init_37 rfl (lv_at hl 0 rfl) ?_
  refine q_new C h nw_X10_30 (Nat.le_of_ble_eq_true rfl) (Nat.le_of_ble_eq_true rfl) dX10_init_38 (fun q_202 H nq_202 h => ?_)
  refine lv_dup hx hb dX10_init_41 rfl ?_
  refine k_v (r_I C h hl (As := []) (rest := [.ref q_202, .ref x]) (k_X9_init l D G b0 (t.raw (t.zero nq_202)) q_202 (hu_self _ _ _) (t.zero nq_202)) mk_X9_init rfl w_272 w_273 w_274 ⟨Nat.le_of_ble_eq_true rfl, Nat.le_of_ble_eq_true rfl⟩ rfl (Nat.le_of_ble_eq_true rfl) ⟨Nat.le_of_ble_eq_true rfl, Nat.le_of_ble_eq_true rfl⟩ rfl dX10_init_42) h (fun f_203 H locs hp h => ?_)
  obtain ⟨τ_204, t1_, G1_, tq_202, pxq_202⟩ := hp
  obtain ⟨kx, zx, gx, gw_⟩ := st_call t kx zx gx nq_202 G1_
  have t := t1_
  have bq_190 := bq_190.tr gw_
  have bq_194 := bq_194.tr gw_
  have bq_198 := bq_198.tr gw_
  have bq_202 := Gw.rf τ_204 f_203
  refine q_put C h kx flw_X10_33 (Or.inl hini) (v := .ref q_202) rfl rfl (Nat.le_of_ble_eq_true rfl) dX10_init_45 (fun H locs h => ?_)
  have h : hw D b0 s.heap (hu f_203 x (.inr (11, [.ref q_190, .ref q_194, .ref q_198, .ref q_202, .null, .null, .null, .null, .null, .null]))) H locs := h
  obtain ⟨f_205, ef_, t, kx, gx, gw_⟩ := st_put t zx gx (.inr (11, [.ref q_190, .ref q_194, .ref q_198, .ref q_202, .null, .null, .null, .null, .null, .null]))
  rw [ef_] at h
  have bq_190 := bq_190.tr gw_
  have bq_194 := bq_194.tr gw_
  have bq_198 := bq_198.tr gw_
  have bq_202 := bq_202.tr gw_
  refine lv_aload_n hx hb dX10_init_48 rfl (lv_at hl 0 rfl) ?_
  refine q_new C h nw_X10_37 (Nat.le_of_ble_eq_true rfl) (Nat.le_of_ble_eq_true rfl) dX10_init_49 (fun q_206 H nq_206 h => ?_)
  refine lv_dup hx hb dX10_init_52 rfl ?_
  refine k_v (r_I C h hl (As := []) (rest := [.ref q_206, .ref x]) (k_X8_init l D G b0 (t.raw (t.zero nq_206)) q_206 (hu_self _ _ _) (t.zero nq_206)) mk_X8_init rfl w_293 w_294 w_295 ⟨Nat.le_of_ble_eq_true rfl, Nat.le_of_ble_eq_true rfl⟩ rfl (Nat.le_of_ble_eq_true rfl) ⟨Nat.le_of_ble_eq_true rfl, Nat.le_of_ble_eq_true rfl⟩ rfl dX10_init_53) h (fun f_207 H locs hp h => ?_)
  obtain ⟨τ_208, t1_, G1_, tq_206, pxq_206⟩ := hp
  obtain ⟨kx, zx, gx, gw_⟩ := st_call t kx zx gx nq_206 G1_
  have t := t1_
  have bq_190 := bq_190.tr gw_
  have bq_194 := bq_194.tr gw_
  have bq_198 := bq_198.tr gw_
  have bq_202 := bq_202.tr gw_
  have bq_206 := Gw.rf τ_208 f_207
  refine q_put C h kx flw_X10_40 (Or.inl hini) (v := .ref q_206) rfl rfl (Nat.le_of_ble_eq_true rfl) dX10_init_56 (fun H locs h => ?_)
  have h : hw D b0 s.heap (hu f_207 x (.inr (11, [.ref q_190, .ref q_194, .ref q_198, .ref q_202, .ref q_206, .null, .null, .null, .null, .null]))) H locs := h
  obtain ⟨f_209, ef_, t, kx, gx, gw_⟩ := st_put t zx gx (.inr (11, [.ref q_190, .ref q_194, .ref q_198, .ref q_202, .ref q_206, .null, .null, .null, .null, .null]))
  rw [ef_] at h
  have bq_190 := bq_190.tr gw_
  have bq_194 := bq_194.tr gw_
  have bq_198 := bq_198.tr gw_
  have bq_202 := bq_202.tr gw_
  have bq_206 := bq_206.tr gw_
  refine lv_aload_n hx hb dX10_init_59 rfl (lv_at hl 0 rfl) ?_
  refine q_new C h nw_X10_44 (Nat.le_of_ble_eq_true rfl) (Nat.le_of_ble_eq_true rfl) dX10_init_60 (fun q_210 H nq_210 h => ?_)
  refine lv_dup hx hb dX10_init_63 rfl ?_
  refine k_v (r_I C h hl (As := []) (rest := [.ref q_210, .ref x]) (k_X4_init l D G b0 (t.raw (t.zero nq_210)) q_210 (hu_self _ _ _) (t.zero nq_210)) mk_X4_init rfl w_308 w_309 w_310 ⟨Nat.le_of_ble_eq_true rfl, Nat.le_of_ble_eq_true rfl⟩ rfl (Nat.le_of_ble_eq_true rfl) ⟨Nat.le_of_ble_eq_true rfl, Nat.le_of_ble_eq_true rfl⟩ rfl dX10_init_64) h (fun f_211 H locs hp h => ?_)
  obtain ⟨τ_212, t1_, G1_, tq_210, pxq_210⟩ := hp
  obtain ⟨kx, zx, gx, gw_⟩ := st_call t kx zx gx nq_210 G1_
  have t := t1_
  have bq_190 := bq_190.tr gw_
  have bq_194 := bq_194.tr gw_
  have bq_198 := bq_198.tr gw_
  have bq_202 := bq_202.tr gw_
  have bq_206 := bq_206.tr gw_
  have bq_210 := Gw.rf τ_212 f_211
  refine q_put C h kx flw_X10_47 (Or.inl hini) (v := .ref q_210) rfl rfl (Nat.le_of_ble_eq_true rfl) dX10_init_67 (fun H locs h => ?_)
  have h : hw D b0 s.heap (hu f_211 x (.inr (11, [.ref q_190, .ref q_194, .ref q_198, .ref q_202, .ref q_206, .ref q_210, .null, .null, .null, .null]))) H locs := h
  obtain ⟨f_213, ef_, t, kx, gx, gw_⟩ := st_put t zx gx (.inr (11, [.ref q_190, .ref q_194, .ref q_198, .ref q_202, .ref q_206, .ref q_210, .null, .null, .null, .null]))
  rw [ef_] at h
  have bq_190 := bq_190.tr gw_
  have bq_194 := bq_194.tr gw_
  have bq_198 := bq_198.tr gw_
  have bq_202 := bq_202.tr gw_
  have bq_206 := bq_206.tr gw_
  have bq_210 := bq_210.tr gw_
  refine lv_aload_n hx hb dX10_init_70 rfl (lv_at hl 0 rfl) ?_
  refine q_new C h nw_X10_51 (Nat.le_of_ble_eq_true rfl) (Nat.le_of_ble_eq_true rfl) dX10_init_71 (fun q_214 H nq_214 h => ?_)
  refine lv_dup hx hb dX10_init_74 rfl ?_
  refine lv_aload_n hx hb dX10_init_75 rfl (lv_at hl 0 rfl) ?_
  refine q_get C h (hu_at kx (hne0 nq_214 kx)) fl_X10_47 (v := .ref q_210) rfl dX10_init_76 ?_
  refine k_v (r_I C h hl (As := [.ref q_210]) (rest := [.ref q_214, .ref x]) (k_X3_init l D G b0 (t.raw (t.zero nq_214)) q_214 (hu_self _ _ _) (t.zero nq_214) q_210 (bq_210.tg tq_210 (by decide))) mk_X3_init rfl w_329 w_330 w_331 ⟨Nat.le_of_ble_eq_true rfl, Nat.le_of_ble_eq_true rfl⟩ rfl (Nat.le_of_ble_eq_true rfl) ⟨Nat.le_of_ble_eq_true rfl, Nat.le_of_ble_eq_true rfl⟩ rfl dX10_init_79) h (fun f_215 H locs hp h => ?_)
  obtain ⟨τ_216, t1_, G1_, tq_214, pxq_214⟩ := hp
  obtain ⟨kx, zx, gx, gw_⟩ := st_call t kx zx gx nq_214 G1_
  have t := t1_
  have bq_190 := bq_190.tr gw_
  have bq_194 := bq_194.tr gw_
  have bq_198 := bq_198.tr gw_
  have bq_202 := bq_202.tr gw_
  have bq_206 := bq_206.tr gw_
  have bq_210 := bq_210.tr gw_
  have bq_214 := Gw.rf τ_216 f_215
  refine q_put C h kx flw_X10_56 (Or.inl hini) (v := .ref q_214) rfl rfl (Nat.le_of_ble_eq_true rfl) dX10_init_82 (fun H locs h => ?_)
  have h : hw D b0 s.heap (hu f_215 x (.inr (11, [.ref q_190, .ref q_194, .ref q_198, .ref q_202, .ref q_206, .ref q_210, .ref q_214, .null, .null, .null]))) H locs := h
  obtain ⟨f_217, ef_, t, kx, gx, gw_⟩ := st_put t zx gx (.inr (11, [.ref q_190, .ref q_194, .ref q_198, .ref q_202, .ref q_206, .ref q_210, .ref q_214, .null, .null, .null]))
  rw [ef_] at h
  have bq_190 := bq_190.tr gw_
  have bq_194 := bq_194.tr gw_
  have bq_198 := bq_198.tr gw_
  have bq_202 := bq_202.tr gw_
  have bq_206 := bq_206.tr gw_
  have bq_210 := bq_210.tr gw_
  have bq_214 := bq_214.tr gw_
  refine lv_aload_n hx hb dX10_init_85 rfl (lv_at hl 0 rfl) ?_
  refine lv_iconst (v := 4) hx hb dX10_init_86 (by decide) ?_
  refine q_newa C h (atype := .int) 1 rfl rfl rfl w_161 (a0 := (4, .inl (fun _ => 0))) (fun _ => rfl) (by decide) (N' := 4) (by decide) (Nat.le_of_ble_eq_true rfl) (Nat.le_of_ble_eq_true rfl) (Nat.le_of_ble_eq_true rfl) dX10_init_87 (fun q_218 H nq_218 h => ?_)
  obtain ⟨τ_220, f_219, ef_, t, kx, zx, gx, gw_, tq_218, kq_218⟩ := st_new (tg := 50) (e := .inl (G 1, 4, .inl (fun _ => 0))) t kx zx gx nq_218 (fw_50 _ ⟨_, rfl, fun _ => ⟨by decide, by decide⟩⟩)
  rw [ef_] at h
  have bq_190 := bq_190.tr gw_
  have bq_194 := bq_194.tr gw_
  have bq_198 := bq_198.tr gw_
  have bq_202 := bq_202.tr gw_
  have bq_206 := bq_206.tr gw_
  have bq_210 := bq_210.tr gw_
  have bq_214 := bq_214.tr gw_
  have bq_218 := Gw.rf τ_220 f_219
  refine q_put C h kx flw_X10_60 (Or.inl hini) (v := .ref q_218) rfl rfl (Nat.le_of_ble_eq_true rfl) dX10_init_89 (fun H locs h => ?_)
  have h : hw D b0 s.heap (hu f_219 x (.inr (11, [.ref q_190, .ref q_194, .ref q_198, .ref q_202, .ref q_206, .ref q_210, .ref q_214, .ref q_218, .null, .null]))) H locs := h
  obtain ⟨f_221, ef_, t, kx, gx, gw_⟩ := st_put t zx gx (.inr (11, [.ref q_190, .ref q_194, .ref q_198, .ref q_202, .ref q_206, .ref q_210, .ref q_214, .ref q_218, .null, .null]))
  rw [ef_] at h
  have bq_190 := bq_190.tr gw_
  have bq_194 := bq_194.tr gw_
  have bq_198 := bq_198.tr gw_
  have bq_202 := bq_202.tr gw_
  have bq_206 := bq_206.tr gw_
  have bq_210 := bq_210.tr gw_
  have bq_214 := bq_214.tr gw_
  have bq_218 := bq_218.tr gw_
  refine lv_aload_n hx hb dX10_init_92 rfl (lv_at hl 0 rfl) ?_
  refine lv_sipush (v := 4900) hx hb dX10_init_93 (by decide) ?_
  refine q_newa C h (atype := .long) 2 rfl rfl rfl w_235 (a0 := (4900, .inr (.inl (fun _ => 0)))) (fun _ => rfl) (by decide) (N' := 4900) (by decide) (Nat.le_of_ble_eq_true rfl) (Nat.le_of_ble_eq_true rfl) (Nat.le_of_ble_eq_true rfl) dX10_init_96 (fun q_222 H nq_222 h => ?_)
  obtain ⟨τ_224, f_223, ef_, t, kx, zx, gx, gw_, tq_222, kq_222⟩ := st_new (tg := 51) (e := .inl (G 2, 4900, .inr (.inl (fun _ => 0)))) t kx zx gx nq_222 (fw_51 _ ⟨_, rfl⟩)
  rw [ef_] at h
  have bq_190 := bq_190.tr gw_
  have bq_194 := bq_194.tr gw_
  have bq_198 := bq_198.tr gw_
  have bq_202 := bq_202.tr gw_
  have bq_206 := bq_206.tr gw_
  have bq_210 := bq_210.tr gw_
  have bq_214 := bq_214.tr gw_
  have bq_218 := bq_218.tr gw_
  have bq_222 := Gw.rf τ_224 f_223
  refine q_put C h kx flw_X10_64 (Or.inl hini) (v := .ref q_222) rfl rfl (Nat.le_of_ble_eq_true rfl) dX10_init_98 (fun H locs h => ?_)
  have h : hw D b0 s.heap (hu f_223 x (.inr (11, [.ref q_190, .ref q_194, .ref q_198, .ref q_202, .ref q_206, .ref q_210, .ref q_214, .ref q_218, .ref q_222, .null]))) H locs := h
  obtain ⟨f_225, ef_, t, kx, gx, gw_⟩ := st_put t zx gx (.inr (11, [.ref q_190, .ref q_194, .ref q_198, .ref q_202, .ref q_206, .ref q_210, .ref q_214, .ref q_218, .ref q_222, .null]))
  rw [ef_] at h
  have bq_190 := bq_190.tr gw_
  have bq_194 := bq_194.tr gw_
  have bq_198 := bq_198.tr gw_
  have bq_202 := bq_202.tr gw_
  have bq_206 := bq_206.tr gw_
  have bq_210 := bq_210.tr gw_
  have bq_214 := bq_214.tr gw_
  have bq_218 := bq_218.tr gw_
  have bq_222 := bq_222.tr gw_
  refine lv_aload_n hx hb dX10_init_101 rfl (lv_at hl 0 rfl) ?_
  refine q_new C h nw_X10_68 (Nat.le_of_ble_eq_true rfl) (Nat.le_of_ble_eq_true rfl) dX10_init_102 (fun q_226 H nq_226 h => ?_)
  refine lv_dup hx hb dX10_init_105 rfl ?_
  refine k_v (r_I C h hl (As := []) (rest := [.ref q_226, .ref x]) (k_J4_init_da8c8 l D G b0 (t.raw (t.zero nq_226)) q_226 (hu_self _ _ _) (t.zero nq_226)) mk_J4_init_da8c8 rfl w_349 w_350 w_351 ⟨Nat.le_of_ble_eq_true rfl, Nat.le_of_ble_eq_true rfl⟩ rfl (Nat.le_of_ble_eq_true rfl) ⟨Nat.le_of_ble_eq_true rfl, Nat.le_of_ble_eq_true rfl⟩ rfl dX10_init_106) h (fun f_227 H locs hp h => ?_)
  obtain ⟨τ_228, t1_, G1_, tq_226, pxq_226⟩ := hp
  obtain ⟨kx, zx, gx, gw_⟩ := st_call t kx zx gx nq_226 G1_
  have t := t1_
  have bq_190 := bq_190.tr gw_
  have bq_194 := bq_194.tr gw_
  have bq_198 := bq_198.tr gw_
  have bq_202 := bq_202.tr gw_
  have bq_206 := bq_206.tr gw_
  have bq_210 := bq_210.tr gw_
  have bq_214 := bq_214.tr gw_
  have bq_218 := bq_218.tr gw_
  have bq_222 := bq_222.tr gw_
  have bq_226 := Gw.rf τ_228 f_227
  refine q_put C h kx flw_X10_71 (Or.inl hini) (v := .ref q_226) rfl rfl (Nat.le_of_ble_eq_true rfl) dX10_init_109 (fun H locs h => ?_)
  have h : hw D b0 s.heap (hu f_227 x (.inr (11, [.ref q_190, .ref q_194, .ref q_198, .ref q_202, .ref q_206, .ref q_210, .ref q_214, .ref q_218, .ref q_222, .ref q_226]))) H locs := h
  obtain ⟨f_229, ef_, t, kx, gx, gw_⟩ := st_put t zx gx (.inr (11, [.ref q_190, .ref q_194, .ref q_198, .ref q_202, .ref q_206, .ref q_210, .ref q_214, .ref q_218, .ref q_222, .ref q_226]))
  rw [ef_] at h
  have bq_190 := bq_190.tr gw_
  have bq_194 := bq_194.tr gw_
  have bq_198 := bq_198.tr gw_
  have bq_202 := bq_202.tr gw_
  have bq_206 := bq_206.tr gw_
  have bq_210 := bq_210.tr gw_
  have bq_214 := bq_214.tr gw_
  have bq_218 := bq_218.tr gw_
  have bq_222 := bq_222.tr gw_
  have bq_226 := bq_226.tr gw_
  have wf_ : wf G 9 τ_228 10 (.inr (11, [.ref q_190, .ref q_194, .ref q_198, .ref q_202, .ref q_206, .ref q_210, .ref q_214, .ref q_218, .ref q_222, .ref q_226])) := fw_10 _ ⟨_, rfl, rfl, fun k_ T_ hk_ => by
    match k_, hk_ with
    | 0, hk_ => cases hk_; exact ⟨_, rfl, _, rfl, bq_190.tg tq_190 (by decide)⟩
    | 1, hk_ => cases hk_; exact ⟨_, rfl, _, rfl, bq_194.tg tq_194 (by decide)⟩
    | 2, hk_ => cases hk_; exact ⟨_, rfl, _, rfl, bq_198.tg tq_198 (by decide)⟩
    | 3, hk_ => cases hk_; exact ⟨_, rfl, _, rfl, bq_202.tg tq_202 (by decide)⟩
    | 4, hk_ => cases hk_; exact ⟨_, rfl, _, rfl, bq_206.tg tq_206 (by decide)⟩
    | 5, hk_ => cases hk_; exact ⟨_, rfl, _, rfl, bq_210.tg tq_210 (by decide)⟩
    | 6, hk_ => cases hk_; exact ⟨_, rfl, _, rfl, bq_214.tg tq_214 (by decide)⟩
    | 7, hk_ => cases hk_; exact ⟨_, rfl, _, rfl, bq_218.tg tq_218 (by decide)⟩
    | 8, hk_ => cases hk_; exact ⟨_, rfl, _, rfl, bq_222.tg tq_222 (by decide)⟩
    | 9, hk_ => cases hk_; exact ⟨_, rfl, _, rfl, bq_226.tg tq_226 (by decide)⟩
    | k_ + 10, hk_ => simp at hk_⟩
  obtain ⟨τe_, t, gx, gw_, tx_⟩ := st_tag t kx zx gx wf_
  have bq_190 := bq_190.tr gw_
  have bq_194 := bq_194.tr gw_
  have bq_198 := bq_198.tr gw_
  have bq_202 := bq_202.tr gw_
  have bq_206 := bq_206.tr gw_
  have bq_210 := bq_210.tr gw_
  have bq_214 := bq_214.tr gw_
  have bq_218 := bq_218.tr gw_
  have bq_222 := bq_222.tr gw_
  have bq_226 := bq_226.tr gw_
  obtain ⟨ta_, tb_, kt_, hta_, htb_⟩ := pxq_190
  obtain ⟨K_, sh_, qs_, bk_⟩ := pxq_194
  obtain ⟨rq_, mq_, gj_⟩ := pxq_198
  have bk1_ := bk_.gw bq_194 tq_194
  have gj1_ := (GJ.fr gj_ bq_198.2 tq_198 (by decide)).ex bq_198.1
  obtain ⟨⟨u0_, u1_, u2_, u3_, u4_, u5_⟩, ⟨v0_, v1_, v2_, v3_, v4_, v5_, v6_, v7_, v8_⟩, w1_, w2_, w3_, w4_⟩ := bk1_
  rw [u0_] at v0_ v1_ v2_ v3_ v4_ v5_
  exact q_vret C h hr (⟨_, t, gx, tx_, (fun i => ([x, q_190, ta_, tb_, q_194, q_218, K_ 6, K_ 7, K_ 8, K_ 9, K_ 10, q_198, rq_, mq_] : List Nat).getD i 0), _, _, rfl, ⟨⟨tx_, bq_190.tg tq_190 (by decide), bq_190.tg hta_ (by decide), bq_190.tg htb_ (by decide), bq_194.tg tq_194 (by decide), bq_218.tg tq_218 (by decide), u1_, u2_, u3_, u4_, u5_, bq_198.tg tq_198 (by decide)⟩, ⟨⟨_, kx, _, _, rfl, rfl⟩, ⟨_, kx, _, _, rfl, rfl⟩, ⟨_, kx, _, _, rfl, rfl⟩, ⟨_, kx, _, _, rfl, rfl⟩, bq_190.at tq_190 (by decide) ⟨_, kt_, _, _, rfl, rfl⟩, bq_190.at tq_190 (by decide) ⟨_, kt_, _, _, rfl, rfl⟩, v1_, v2_, v3_, v6_, v8_⟩, w1_, w2_, w3_, w4_⟩, gj1_, bq_190.at tq_190 (by decide) ⟨_, kt_, _, _, rfl, rfl⟩, v0_, v4_, v5_, v7_, bq_218.at tq_218 (by decide) ⟨_, kq_218, rfl⟩⟩) (Nat.le_of_ble_eq_true rfl) (Nat.le_of_ble_eq_true rfl) dX10_init_112
set_option maxRecDepth 100000 in
set_option maxHeartbeats 4000000 in
theorem k_X11_init (l : Launch) (D : va_G) (G : Nat → Nat) (b0 : Nat) {τ0 : Nat → Nat} {f0 : hM} (t : TI G 9 τ0 f0) (x : Nat) (kx : f0 x = some (.inr (12, [.int 0, .null, .int 0, .int 0, .int 0, .null, .null, .null, .null, .null, .int 0, .int 0, .null, .null, .int 0, .null, .null, .null, .long 0, .null, .null, .null, .null, .null, .null, .null, .null, .int 0, .int 0, .null, .null, .int 0]))) (zx : τ0 x = 0) : mV l yX11_init cX11_init 1 { frames := 1, cells := 21, slots := 65101, locals := 12 } D G b0 f0 [.ref x] (fun f1 => ∃ τ1, TI G 9 τ1 f1 ∧ Gx x τ0 τ1 f0 f1 ∧ τ1 x = 60 ∧ ∃ M : Nat → Nat, M 0 = x ∧ MK τ1 f1 M ∧ NGs τ1 f1 (M 0) ∧ atp f1 (M 0) (fd 2 (.int 0)) ∧ atp f1 (M 0) (fd 10 (.int 0)) ∧ atp f1 (M 0) (fd 11 (.int 0)) ∧ atp f1 (M 2) (eqc (.inl (G 1, 81, .inl (fun _ => 0)))) ∧ τ1 (M 6) = 66 ∧ atp f1 (M 0) (fd 9 (.ref (M 6))) ∧ atp f1 (M 6) (eqc (.inl (G 1, 4, .inl (fun _ => 0))))) := by
  refine met_of (own := RX11) (by decide) rfl (Nat.le_of_ble_eq_true rfl) ?_
  intro p e s m below meth c ls C hr hini hl h
  have hl : lv_has ls 1 [(0, .ref x)] := hl
  obtain ⟨hx, hb, hml, hown, hts, hE0, hlk⟩ := id C
  have gx := Gx.rf x τ0 f0
  refine lv_aload_n hx hb dX11_init_0 rfl (lv_at hl 0 rfl) ?_
  refine W.objInit hx hb hown (hts _ w_1432) (hts _ w_130) (hts _ w_131) rfl (hl.1.trans hml.symm) rfl dX11_init_1 (Nat.le_of_ble_eq_true rfl) (Nat.le_of_ble_eq_true rfl) ?_
  show W _ _ _ _ _ _ _ _ _ _ _ _ _ _ _ (F0 m 4 ls [])
  refine lv_aload_n hx hb dX11_init_4 rfl (lv_at hl 0 rfl) ?_
  refine lv_sipush (v := 200) hx hb dX11_init_5 (by decide) ?_
  refine q_newa C h (atype := .byte) 0 rfl rfl rfl w_378 (a0 := (200, .inl (fun _ => 0))) (fun _ => rfl) (by decide) (N' := 200) (by decide) (Nat.le_of_ble_eq_true rfl) (Nat.le_of_ble_eq_true rfl) (Nat.le_of_ble_eq_true rfl) dX11_init_8 (fun q_230 H nq_230 h => ?_)
  obtain ⟨τ_232, f_231, ef_, t, kx, zx, gx, gw_, tq_230, kq_230⟩ := st_new (tg := 61) (e := .inl (G 0, 200, .inl (fun _ => 0))) t kx zx gx nq_230 (fw_61 _ ⟨_, rfl, fun _ => ⟨by decide, by decide⟩⟩)
  rw [ef_] at h
  have bq_230 := Gw.rf τ_232 f_231
  refine q_put C h kx flw_X11_9 (Or.inl hini) (v := .ref q_230) rfl rfl (Nat.le_of_ble_eq_true rfl) dX11_init_10 (fun H locs h => ?_)
  have h : hw D b0 s.heap (hu f_231 x (.inr (12, [.int 0, .ref q_230, .int 0, .int 0, .int 0, .null, .null, .null, .null, .null, .int 0, .int 0, .null, .null, .int 0, .null, .null, .null, .long 0, .null, .null, .null, .null, .null, .null, .null, .null, .int 0, .int 0, .null, .null, .int 0]))) H locs := h
  obtain ⟨f_233, ef_, t, kx, gx, gw_⟩ := st_put t zx gx (.inr (12, [.int 0, .ref q_230, .int 0, .int 0, .int 0, .null, .null, .null, .null, .null, .int 0, .int 0, .null, .null, .int 0, .null, .null, .null, .long 0, .null, .null, .null, .null, .null, .null, .null, .null, .int 0, .int 0, .null, .null, .int 0]))
  rw [ef_] at h
  have bq_230 := bq_230.tr gw_
  refine lv_aload_n hx hb dX11_init_13 rfl (lv_at hl 0 rfl) ?_
  refine lv_bipush (v := 10) hx hb dX11_init_14 (by decide) ?_
  refine q_newa C h (atype := .int) 1 rfl rfl rfl w_161 (a0 := (10, .inl (fun _ => 0))) (fun _ => rfl) (by decide) (N' := 10) (by decide) (Nat.le_of_ble_eq_true rfl) (Nat.le_of_ble_eq_true rfl) (Nat.le_of_ble_eq_true rfl) dX11_init_16 (fun q_234 H nq_234 h => ?_)
  obtain ⟨τ_236, f_235, ef_, t, kx, zx, gx, gw_, tq_234, kq_234⟩ := st_new (tg := 62) (e := .inl (G 1, 10, .inl (fun _ => 0))) t kx zx gx nq_234 (fw_62 _ ⟨_, rfl, fun _ => ⟨by decide, by decide⟩⟩)
  rw [ef_] at h
  have bq_230 := bq_230.tr gw_
  have bq_234 := Gw.rf τ_236 f_235
  refine q_put C h kx flw_X11_13 (Or.inl hini) (v := .ref q_234) rfl rfl (Nat.le_of_ble_eq_true rfl) dX11_init_18 (fun H locs h => ?_)
  have h : hw D b0 s.heap (hu f_235 x (.inr (12, [.int 0, .ref q_230, .int 0, .int 0, .int 0, .ref q_234, .null, .null, .null, .null, .int 0, .int 0, .null, .null, .int 0, .null, .null, .null, .long 0, .null, .null, .null, .null, .null, .null, .null, .null, .int 0, .int 0, .null, .null, .int 0]))) H locs := h
  obtain ⟨f_237, ef_, t, kx, gx, gw_⟩ := st_put t zx gx (.inr (12, [.int 0, .ref q_230, .int 0, .int 0, .int 0, .ref q_234, .null, .null, .null, .null, .int 0, .int 0, .null, .null, .int 0, .null, .null, .null, .long 0, .null, .null, .null, .null, .null, .null, .null, .null, .int 0, .int 0, .null, .null, .int 0]))
  rw [ef_] at h
  have bq_230 := bq_230.tr gw_
  have bq_234 := bq_234.tr gw_
  refine lv_aload_n hx hb dX11_init_21 rfl (lv_at hl 0 rfl) ?_
  refine lv_bipush (v := 81) hx hb dX11_init_22 (by decide) ?_
  refine q_newa C h (atype := .int) 1 rfl rfl rfl w_161 (a0 := (81, .inl (fun _ => 0))) (fun _ => rfl) (by decide) (N' := 81) (by decide) (Nat.le_of_ble_eq_true rfl) (Nat.le_of_ble_eq_true rfl) (Nat.le_of_ble_eq_true rfl) dX11_init_24 (fun q_238 H nq_238 h => ?_)
  obtain ⟨τ_240, f_239, ef_, t, kx, zx, gx, gw_, tq_238, kq_238⟩ := st_new (tg := 63) (e := .inl (G 1, 81, .inl (fun _ => 0))) t kx zx gx nq_238 (fw_63 _ ⟨_, rfl, fun _ _ => ⟨by decide, by decide⟩, ⟨by decide, by decide⟩⟩)
  rw [ef_] at h
  have bq_230 := bq_230.tr gw_
  have bq_234 := bq_234.tr gw_
  have bq_238 := Gw.rf τ_240 f_239
  refine q_put C h kx flw_X11_17 (Or.inl hini) (v := .ref q_238) rfl rfl (Nat.le_of_ble_eq_true rfl) dX11_init_26 (fun H locs h => ?_)
  have h : hw D b0 s.heap (hu f_239 x (.inr (12, [.int 0, .ref q_230, .int 0, .int 0, .int 0, .ref q_234, .ref q_238, .null, .null, .null, .int 0, .int 0, .null, .null, .int 0, .null, .null, .null, .long 0, .null, .null, .null, .null, .null, .null, .null, .null, .int 0, .int 0, .null, .null, .int 0]))) H locs := h
  obtain ⟨f_241, ef_, t, kx, gx, gw_⟩ := st_put t zx gx (.inr (12, [.int 0, .ref q_230, .int 0, .int 0, .int 0, .ref q_234, .ref q_238, .null, .null, .null, .int 0, .int 0, .null, .null, .int 0, .null, .null, .null, .long 0, .null, .null, .null, .null, .null, .null, .null, .null, .int 0, .int 0, .null, .null, .int 0]))
  rw [ef_] at h
  have bq_230 := bq_230.tr gw_
  have bq_234 := bq_234.tr gw_
  have bq_238 := bq_238.tr gw_
  refine lv_aload_n hx hb dX11_init_29 rfl (lv_at hl 0 rfl) ?_
  refine lv_bipush (v := 81) hx hb dX11_init_30 (by decide) ?_
  refine q_newa C h (atype := .int) 1 rfl rfl rfl w_161 (a0 := (81, .inl (fun _ => 0))) (fun _ => rfl) (by decide) (N' := 81) (by decide) (Nat.le_of_ble_eq_true rfl) (Nat.le_of_ble_eq_true rfl) (Nat.le_of_ble_eq_true rfl) dX11_init_32 (fun q_242 H nq_242 h => ?_)
  obtain ⟨τ_244, f_243, ef_, t, kx, zx, gx, gw_, tq_242, kq_242⟩ := st_new (tg := 64) (e := .inl (G 1, 81, .inl (fun _ => 0))) t kx zx gx nq_242 (fw_64 _ ⟨_, rfl, fun _ => ⟨by decide, by decide⟩⟩)
  rw [ef_] at h
  have bq_230 := bq_230.tr gw_
  have bq_234 := bq_234.tr gw_
  have bq_238 := bq_238.tr gw_
  have bq_242 := Gw.rf τ_244 f_243
  refine q_put C h kx flw_X11_20 (Or.inl hini) (v := .ref q_242) rfl rfl (Nat.le_of_ble_eq_true rfl) dX11_init_34 (fun H locs h => ?_)
  have h : hw D b0 s.heap (hu f_243 x (.inr (12, [.int 0, .ref q_230, .int 0, .int 0, .int 0, .ref q_234, .ref q_238, .ref q_242, .null, .null, .int 0, .int 0, .null, .null, .int 0, .null, .null, .null, .long 0, .null, .null, .null, .null, .null, .null, .null, .null, .int 0, .int 0, .null, .null, .int 0]))) H locs := h
  obtain ⟨f_245, ef_, t, kx, gx, gw_⟩ := st_put t zx gx (.inr (12, [.int 0, .ref q_230, .int 0, .int 0, .int 0, .ref q_234, .ref q_238, .ref q_242, .null, .null, .int 0, .int 0, .null, .null, .int 0, .null, .null, .null, .long 0, .null, .null, .null, .null, .null, .null, .null, .null, .int 0, .int 0, .null, .null, .int 0]))
  rw [ef_] at h
  have bq_230 := bq_230.tr gw_
  have bq_234 := bq_234.tr gw_
  have bq_238 := bq_238.tr gw_
  have bq_242 := bq_242.tr gw_
  refine lv_aload_n hx hb dX11_init_37 rfl (lv_at hl 0 rfl) ?_
  refine lv_sipush (v := 972) hx hb dX11_init_38 (by decide) ?_
  refine q_newa C h (atype := .int) 1 rfl rfl rfl w_161 (a0 := (972, .inl (fun _ => 0))) (fun _ => rfl) (by decide) (N' := 972) (by decide) (Nat.le_of_ble_eq_true rfl) (Nat.le_of_ble_eq_true rfl) (Nat.le_of_ble_eq_true rfl) dX11_init_41 (fun q_246 H nq_246 h => ?_)
  obtain ⟨τ_248, f_247, ef_, t, kx, zx, gx, gw_, tq_246, kq_246⟩ := st_new (tg := 65) (e := .inl (G 1, 972, .inl (fun _ => 0))) t kx zx gx nq_246 (fw_65 _ ⟨_, rfl, fun _ => ⟨by decide, by decide⟩⟩)
  rw [ef_] at h
  have bq_230 := bq_230.tr gw_
  have bq_234 := bq_234.tr gw_
  have bq_238 := bq_238.tr gw_
  have bq_242 := bq_242.tr gw_
  have bq_246 := Gw.rf τ_248 f_247
  refine q_put C h kx flw_X11_23 (Or.inl hini) (v := .ref q_246) rfl rfl (Nat.le_of_ble_eq_true rfl) dX11_init_43 (fun H locs h => ?_)
  have h : hw D b0 s.heap (hu f_247 x (.inr (12, [.int 0, .ref q_230, .int 0, .int 0, .int 0, .ref q_234, .ref q_238, .ref q_242, .ref q_246, .null, .int 0, .int 0, .null, .null, .int 0, .null, .null, .null, .long 0, .null, .null, .null, .null, .null, .null, .null, .null, .int 0, .int 0, .null, .null, .int 0]))) H locs := h
  obtain ⟨f_249, ef_, t, kx, gx, gw_⟩ := st_put t zx gx (.inr (12, [.int 0, .ref q_230, .int 0, .int 0, .int 0, .ref q_234, .ref q_238, .ref q_242, .ref q_246, .null, .int 0, .int 0, .null, .null, .int 0, .null, .null, .null, .long 0, .null, .null, .null, .null, .null, .null, .null, .null, .int 0, .int 0, .null, .null, .int 0]))
  rw [ef_] at h
  have bq_230 := bq_230.tr gw_
  have bq_234 := bq_234.tr gw_
  have bq_238 := bq_238.tr gw_
  have bq_242 := bq_242.tr gw_
  have bq_246 := bq_246.tr gw_
  refine lv_aload_n hx hb dX11_init_46 rfl (lv_at hl 0 rfl) ?_
  refine lv_iconst (v := 4) hx hb dX11_init_47 (by decide) ?_
  refine q_newa C h (atype := .int) 1 rfl rfl rfl w_161 (a0 := (4, .inl (fun _ => 0))) (fun _ => rfl) (by decide) (N' := 4) (by decide) (Nat.le_of_ble_eq_true rfl) (Nat.le_of_ble_eq_true rfl) (Nat.le_of_ble_eq_true rfl) dX11_init_48 (fun q_250 H nq_250 h => ?_)
  obtain ⟨τ_252, f_251, ef_, t, kx, zx, gx, gw_, tq_250, kq_250⟩ := st_new (tg := 66) (e := .inl (G 1, 4, .inl (fun _ => 0))) t kx zx gx nq_250 (fw_66 _ ⟨_, rfl, fun _ => ⟨by decide, by decide⟩⟩)
  rw [ef_] at h
  have bq_230 := bq_230.tr gw_
  have bq_234 := bq_234.tr gw_
  have bq_238 := bq_238.tr gw_
  have bq_242 := bq_242.tr gw_
  have bq_246 := bq_246.tr gw_
  have bq_250 := Gw.rf τ_252 f_251
  refine q_put C h kx flw_X11_26 (Or.inl hini) (v := .ref q_250) rfl rfl (Nat.le_of_ble_eq_true rfl) dX11_init_50 (fun H locs h => ?_)
  have h : hw D b0 s.heap (hu f_251 x (.inr (12, [.int 0, .ref q_230, .int 0, .int 0, .int 0, .ref q_234, .ref q_238, .ref q_242, .ref q_246, .ref q_250, .int 0, .int 0, .null, .null, .int 0, .null, .null, .null, .long 0, .null, .null, .null, .null, .null, .null, .null, .null, .int 0, .int 0, .null, .null, .int 0]))) H locs := h
  obtain ⟨f_253, ef_, t, kx, gx, gw_⟩ := st_put t zx gx (.inr (12, [.int 0, .ref q_230, .int 0, .int 0, .int 0, .ref q_234, .ref q_238, .ref q_242, .ref q_246, .ref q_250, .int 0, .int 0, .null, .null, .int 0, .null, .null, .null, .long 0, .null, .null, .null, .null, .null, .null, .null, .null, .int 0, .int 0, .null, .null, .int 0]))
  rw [ef_] at h
  have bq_230 := bq_230.tr gw_
  have bq_234 := bq_234.tr gw_
  have bq_238 := bq_238.tr gw_
  have bq_242 := bq_242.tr gw_
  have bq_246 := bq_246.tr gw_
  have bq_250 := bq_250.tr gw_
  refine lv_aload_n hx hb dX11_init_53 rfl (lv_at hl 0 rfl) ?_
  refine lv_sipush (v := 19600) hx hb dX11_init_54 (by decide) ?_
  refine q_newa C h (atype := .long) 2 rfl rfl rfl w_235 (a0 := (19600, .inr (.inl (fun _ => 0)))) (fun _ => rfl) (by decide) (N' := 19600) (by decide) (Nat.le_of_ble_eq_true rfl) (Nat.le_of_ble_eq_true rfl) (Nat.le_of_ble_eq_true rfl) dX11_init_57 (fun q_254 H nq_254 h => ?_)
  have sq_254 := nq_254
  obtain ⟨τ_256, f_255, ef_, t, kx, zx, gx, gw_, tq_254, kq_254⟩ := st_new (tg := 67) (e := .inl (G 2, 19600, .inr (.inl (fun _ => 0)))) t kx zx gx nq_254 (fw_67 _ ⟨_, rfl⟩)
  rw [ef_] at h
  have bq_230 := bq_230.tr gw_
  have bq_234 := bq_234.tr gw_
  have bq_238 := bq_238.tr gw_
  have bq_242 := bq_242.tr gw_
  have bq_246 := bq_246.tr gw_
  have bq_250 := bq_250.tr gw_
  have bq_254 := Gw.rf τ_256 f_255
  refine q_put C h kx flw_X11_29 (Or.inr ⟨_, _, _, rfl, rfl⟩) (v := .ref q_254) rfl rfl (Nat.le_of_ble_eq_true rfl) dX11_init_59 (fun H locs h => ?_)
  have h : hw D b0 s.heap (hu f_255 x (.inr (12, [.int 0, .ref q_230, .int 0, .int 0, .int 0, .ref q_234, .ref q_238, .ref q_242, .ref q_246, .ref q_250, .int 0, .int 0, .ref q_254, .null, .int 0, .null, .null, .null, .long 0, .null, .null, .null, .null, .null, .null, .null, .null, .int 0, .int 0, .null, .null, .int 0]))) H locs := h
  obtain ⟨f_257, ef_, t, kx, gx, gw_⟩ := st_put t zx gx (.inr (12, [.int 0, .ref q_230, .int 0, .int 0, .int 0, .ref q_234, .ref q_238, .ref q_242, .ref q_246, .ref q_250, .int 0, .int 0, .ref q_254, .null, .int 0, .null, .null, .null, .long 0, .null, .null, .null, .null, .null, .null, .null, .null, .int 0, .int 0, .null, .null, .int 0]))
  rw [ef_] at h
  have bq_230 := bq_230.tr gw_
  have bq_234 := bq_234.tr gw_
  have bq_238 := bq_238.tr gw_
  have bq_242 := bq_242.tr gw_
  have bq_246 := bq_246.tr gw_
  have bq_250 := bq_250.tr gw_
  have bq_254 := bq_254.tr gw_
  refine lv_aload_n hx hb dX11_init_62 rfl (lv_at hl 0 rfl) ?_
  refine lv_sipush (v := 19600) hx hb dX11_init_63 (by decide) ?_
  refine q_newa C h (atype := .long) 2 rfl rfl rfl w_235 (a0 := (19600, .inr (.inl (fun _ => 0)))) (fun _ => rfl) (by decide) (N' := 19600) (by decide) (Nat.le_of_ble_eq_true rfl) (Nat.le_of_ble_eq_true rfl) (Nat.le_of_ble_eq_true rfl) dX11_init_66 (fun q_258 H nq_258 h => ?_)
  have dgg_ := tag_ne t (bq_254.tg tq_254 (by decide)) (by decide) nq_258
  have sq_258 := nq_258
  obtain ⟨τ_260, f_259, ef_, t, kx, zx, gx, gw_, tq_258, kq_258⟩ := st_new (tg := 67) (e := .inl (G 2, 19600, .inr (.inl (fun _ => 0)))) t kx zx gx nq_258 (fw_67 _ ⟨_, rfl⟩)
  rw [ef_] at h
  have bq_230 := bq_230.tr gw_
  have bq_234 := bq_234.tr gw_
  have bq_238 := bq_238.tr gw_
  have bq_242 := bq_242.tr gw_
  have bq_246 := bq_246.tr gw_
  have bq_250 := bq_250.tr gw_
  have bq_254 := bq_254.tr gw_
  have bq_258 := Gw.rf τ_260 f_259
  refine q_put C h kx flw_X11_33 (Or.inr ⟨_, _, _, rfl, rfl⟩) (v := .ref q_258) rfl rfl (Nat.le_of_ble_eq_true rfl) dX11_init_68 (fun H locs h => ?_)
  have h : hw D b0 s.heap (hu f_259 x (.inr (12, [.int 0, .ref q_230, .int 0, .int 0, .int 0, .ref q_234, .ref q_238, .ref q_242, .ref q_246, .ref q_250, .int 0, .int 0, .ref q_254, .ref q_258, .int 0, .null, .null, .null, .long 0, .null, .null, .null, .null, .null, .null, .null, .null, .int 0, .int 0, .null, .null, .int 0]))) H locs := h
  obtain ⟨f_261, ef_, t, kx, gx, gw_⟩ := st_put t zx gx (.inr (12, [.int 0, .ref q_230, .int 0, .int 0, .int 0, .ref q_234, .ref q_238, .ref q_242, .ref q_246, .ref q_250, .int 0, .int 0, .ref q_254, .ref q_258, .int 0, .null, .null, .null, .long 0, .null, .null, .null, .null, .null, .null, .null, .null, .int 0, .int 0, .null, .null, .int 0]))
  rw [ef_] at h
  have bq_230 := bq_230.tr gw_
  have bq_234 := bq_234.tr gw_
  have bq_238 := bq_238.tr gw_
  have bq_242 := bq_242.tr gw_
  have bq_246 := bq_246.tr gw_
  have bq_250 := bq_250.tr gw_
  have bq_254 := bq_254.tr gw_
  have bq_258 := bq_258.tr gw_
  refine lv_aload_n hx hb dX11_init_71 rfl (lv_at hl 0 rfl) ?_
  refine lv_bipush (v := 61) hx hb dX11_init_72 (by decide) ?_
  refine q_newa C h (atype := .int) 1 rfl rfl rfl w_161 (a0 := (61, .inl (fun _ => 0))) (fun _ => rfl) (by decide) (N' := 61) (by decide) (Nat.le_of_ble_eq_true rfl) (Nat.le_of_ble_eq_true rfl) (Nat.le_of_ble_eq_true rfl) dX11_init_74 (fun q_262 H nq_262 h => ?_)
  obtain ⟨τ_264, f_263, ef_, t, kx, zx, gx, gw_, tq_262, kq_262⟩ := st_new (tg := 69) (e := .inl (G 1, 61, .inl (fun _ => 0))) t kx zx gx nq_262 (fw_69 _ ⟨_, rfl, fun _ => ⟨by decide, by decide⟩⟩)
  rw [ef_] at h
  have bq_230 := bq_230.tr gw_
  have bq_234 := bq_234.tr gw_
  have bq_238 := bq_238.tr gw_
  have bq_242 := bq_242.tr gw_
  have bq_246 := bq_246.tr gw_
  have bq_250 := bq_250.tr gw_
  have bq_254 := bq_254.tr gw_
  have bq_258 := bq_258.tr gw_
  have bq_262 := Gw.rf τ_264 f_263
  refine q_put C h kx flw_X11_36 (Or.inl hini) (v := .ref q_262) rfl rfl (Nat.le_of_ble_eq_true rfl) dX11_init_76 (fun H locs h => ?_)
  have h : hw D b0 s.heap (hu f_263 x (.inr (12, [.int 0, .ref q_230, .int 0, .int 0, .int 0, .ref q_234, .ref q_238, .ref q_242, .ref q_246, .ref q_250, .int 0, .int 0, .ref q_254, .ref q_258, .int 0, .ref q_262, .null, .null, .long 0, .null, .null, .null, .null, .null, .null, .null, .null, .int 0, .int 0, .null, .null, .int 0]))) H locs := h
  obtain ⟨f_265, ef_, t, kx, gx, gw_⟩ := st_put t zx gx (.inr (12, [.int 0, .ref q_230, .int 0, .int 0, .int 0, .ref q_234, .ref q_238, .ref q_242, .ref q_246, .ref q_250, .int 0, .int 0, .ref q_254, .ref q_258, .int 0, .ref q_262, .null, .null, .long 0, .null, .null, .null, .null, .null, .null, .null, .null, .int 0, .int 0, .null, .null, .int 0]))
  rw [ef_] at h
  have bq_230 := bq_230.tr gw_
  have bq_234 := bq_234.tr gw_
  have bq_238 := bq_238.tr gw_
  have bq_242 := bq_242.tr gw_
  have bq_246 := bq_246.tr gw_
  have bq_250 := bq_250.tr gw_
  have bq_254 := bq_254.tr gw_
  have bq_258 := bq_258.tr gw_
  have bq_262 := bq_262.tr gw_
  refine lv_aload_n hx hb dX11_init_79 rfl (lv_at hl 0 rfl) ?_
  refine lv_bipush (v := 61) hx hb dX11_init_80 (by decide) ?_
  refine q_newa C h (atype := .int) 1 rfl rfl rfl w_161 (a0 := (61, .inl (fun _ => 0))) (fun _ => rfl) (by decide) (N' := 61) (by decide) (Nat.le_of_ble_eq_true rfl) (Nat.le_of_ble_eq_true rfl) (Nat.le_of_ble_eq_true rfl) dX11_init_82 (fun q_266 H nq_266 h => ?_)
  obtain ⟨τ_268, f_267, ef_, t, kx, zx, gx, gw_, tq_266, kq_266⟩ := st_new (tg := 78) (e := .inl (G 1, 61, .inl (fun _ => 0))) t kx zx gx nq_266 (fw_78 _ ⟨_, rfl, fun _ => ⟨by decide, by decide⟩⟩)
  rw [ef_] at h
  have bq_230 := bq_230.tr gw_
  have bq_234 := bq_234.tr gw_
  have bq_238 := bq_238.tr gw_
  have bq_242 := bq_242.tr gw_
  have bq_246 := bq_246.tr gw_
  have bq_250 := bq_250.tr gw_
  have bq_254 := bq_254.tr gw_
  have bq_258 := bq_258.tr gw_
  have bq_262 := bq_262.tr gw_
  have bq_266 := Gw.rf τ_268 f_267
  refine q_put C h kx flw_X11_39 (Or.inl hini) (v := .ref q_266) rfl rfl (Nat.le_of_ble_eq_true rfl) dX11_init_84 (fun H locs h => ?_)
  have h : hw D b0 s.heap (hu f_267 x (.inr (12, [.int 0, .ref q_230, .int 0, .int 0, .int 0, .ref q_234, .ref q_238, .ref q_242, .ref q_246, .ref q_250, .int 0, .int 0, .ref q_254, .ref q_258, .int 0, .ref q_262, .ref q_266, .null, .long 0, .null, .null, .null, .null, .null, .null, .null, .null, .int 0, .int 0, .null, .null, .int 0]))) H locs := h
  obtain ⟨f_269, ef_, t, kx, gx, gw_⟩ := st_put t zx gx (.inr (12, [.int 0, .ref q_230, .int 0, .int 0, .int 0, .ref q_234, .ref q_238, .ref q_242, .ref q_246, .ref q_250, .int 0, .int 0, .ref q_254, .ref q_258, .int 0, .ref q_262, .ref q_266, .null, .long 0, .null, .null, .null, .null, .null, .null, .null, .null, .int 0, .int 0, .null, .null, .int 0]))
  rw [ef_] at h
  have bq_230 := bq_230.tr gw_
  have bq_234 := bq_234.tr gw_
  have bq_238 := bq_238.tr gw_
  have bq_242 := bq_242.tr gw_
  have bq_246 := bq_246.tr gw_
  have bq_250 := bq_250.tr gw_
  have bq_254 := bq_254.tr gw_
  have bq_258 := bq_258.tr gw_
  have bq_262 := bq_262.tr gw_
  have bq_266 := bq_266.tr gw_
  refine lv_aload_n hx hb dX11_init_87 rfl (lv_at hl 0 rfl) ?_
  refine lv_sipush (v := 169) hx hb dX11_init_88 (by decide) ?_
  refine q_newa C h (atype := .long) 2 rfl rfl rfl w_235 (a0 := (169, .inr (.inl (fun _ => 0)))) (fun _ => rfl) (by decide) (N' := 169) (by decide) (Nat.le_of_ble_eq_true rfl) (Nat.le_of_ble_eq_true rfl) (Nat.le_of_ble_eq_true rfl) dX11_init_91 (fun q_270 H nq_270 h => ?_)
  obtain ⟨τ_272, f_271, ef_, t, kx, zx, gx, gw_, tq_270, kq_270⟩ := st_new (tg := 70) (e := .inl (G 2, 169, .inr (.inl (fun _ => 0)))) t kx zx gx nq_270 (fw_70 _ ⟨_, rfl⟩)
  rw [ef_] at h
  have bq_230 := bq_230.tr gw_
  have bq_234 := bq_234.tr gw_
  have bq_238 := bq_238.tr gw_
  have bq_242 := bq_242.tr gw_
  have bq_246 := bq_246.tr gw_
  have bq_250 := bq_250.tr gw_
  have bq_254 := bq_254.tr gw_
  have bq_258 := bq_258.tr gw_
  have bq_262 := bq_262.tr gw_
  have bq_266 := bq_266.tr gw_
  have bq_270 := Gw.rf τ_272 f_271
  refine q_put C h kx flw_X11_42 (Or.inl hini) (v := .ref q_270) rfl rfl (Nat.le_of_ble_eq_true rfl) dX11_init_93 (fun H locs h => ?_)
  have h : hw D b0 s.heap (hu f_271 x (.inr (12, [.int 0, .ref q_230, .int 0, .int 0, .int 0, .ref q_234, .ref q_238, .ref q_242, .ref q_246, .ref q_250, .int 0, .int 0, .ref q_254, .ref q_258, .int 0, .ref q_262, .ref q_266, .ref q_270, .long 0, .null, .null, .null, .null, .null, .null, .null, .null, .int 0, .int 0, .null, .null, .int 0]))) H locs := h
  obtain ⟨f_273, ef_, t, kx, gx, gw_⟩ := st_put t zx gx (.inr (12, [.int 0, .ref q_230, .int 0, .int 0, .int 0, .ref q_234, .ref q_238, .ref q_242, .ref q_246, .ref q_250, .int 0, .int 0, .ref q_254, .ref q_258, .int 0, .ref q_262, .ref q_266, .ref q_270, .long 0, .null, .null, .null, .null, .null, .null, .null, .null, .int 0, .int 0, .null, .null, .int 0]))
  rw [ef_] at h
  have bq_230 := bq_230.tr gw_
  have bq_234 := bq_234.tr gw_
  have bq_238 := bq_238.tr gw_
  have bq_242 := bq_242.tr gw_
  have bq_246 := bq_246.tr gw_
  have bq_250 := bq_250.tr gw_
  have bq_254 := bq_254.tr gw_
  have bq_258 := bq_258.tr gw_
  have bq_262 := bq_262.tr gw_
  have bq_266 := bq_266.tr gw_
  have bq_270 := bq_270.tr gw_
  refine lv_aload_n hx hb dX11_init_96 rfl (lv_at hl 0 rfl) ?_
  refine lv_sipush (v := 19600) hx hb dX11_init_97 (by decide) ?_
  refine q_newa C h (atype := .long) 2 rfl rfl rfl w_235 (a0 := (19600, .inr (.inl (fun _ => 0)))) (fun _ => rfl) (by decide) (N' := 19600) (by decide) (Nat.le_of_ble_eq_true rfl) (Nat.le_of_ble_eq_true rfl) (Nat.le_of_ble_eq_true rfl) dX11_init_100 (fun q_274 H nq_274 h => ?_)
  obtain ⟨τ_276, f_275, ef_, t, kx, zx, gx, gw_, tq_274, kq_274⟩ := st_new (tg := 68) (e := .inl (G 2, 19600, .inr (.inl (fun _ => 0)))) t kx zx gx nq_274 (fw_68 _ ⟨_, rfl⟩)
  rw [ef_] at h
  have bq_230 := bq_230.tr gw_
  have bq_234 := bq_234.tr gw_
  have bq_238 := bq_238.tr gw_
  have bq_242 := bq_242.tr gw_
  have bq_246 := bq_246.tr gw_
  have bq_250 := bq_250.tr gw_
  have bq_254 := bq_254.tr gw_
  have bq_258 := bq_258.tr gw_
  have bq_262 := bq_262.tr gw_
  have bq_266 := bq_266.tr gw_
  have bq_270 := bq_270.tr gw_
  have bq_274 := Gw.rf τ_276 f_275
  refine q_put C h kx flw_X11_45 (Or.inl hini) (v := .ref q_274) rfl rfl (Nat.le_of_ble_eq_true rfl) dX11_init_102 (fun H locs h => ?_)
  have h : hw D b0 s.heap (hu f_275 x (.inr (12, [.int 0, .ref q_230, .int 0, .int 0, .int 0, .ref q_234, .ref q_238, .ref q_242, .ref q_246, .ref q_250, .int 0, .int 0, .ref q_254, .ref q_258, .int 0, .ref q_262, .ref q_266, .ref q_270, .long 0, .ref q_274, .null, .null, .null, .null, .null, .null, .null, .int 0, .int 0, .null, .null, .int 0]))) H locs := h
  obtain ⟨f_277, ef_, t, kx, gx, gw_⟩ := st_put t zx gx (.inr (12, [.int 0, .ref q_230, .int 0, .int 0, .int 0, .ref q_234, .ref q_238, .ref q_242, .ref q_246, .ref q_250, .int 0, .int 0, .ref q_254, .ref q_258, .int 0, .ref q_262, .ref q_266, .ref q_270, .long 0, .ref q_274, .null, .null, .null, .null, .null, .null, .null, .int 0, .int 0, .null, .null, .int 0]))
  rw [ef_] at h
  have bq_230 := bq_230.tr gw_
  have bq_234 := bq_234.tr gw_
  have bq_238 := bq_238.tr gw_
  have bq_242 := bq_242.tr gw_
  have bq_246 := bq_246.tr gw_
  have bq_250 := bq_250.tr gw_
  have bq_254 := bq_254.tr gw_
  have bq_258 := bq_258.tr gw_
  have bq_262 := bq_262.tr gw_
  have bq_266 := bq_266.tr gw_
  have bq_270 := bq_270.tr gw_
  have bq_274 := bq_274.tr gw_
  refine lv_aload_n hx hb dX11_init_105 rfl (lv_at hl 0 rfl) ?_
  refine lv_bipush (v := 41) hx hb dX11_init_106 (by decide) ?_
  refine q_newa C h (atype := .int) 1 rfl rfl rfl w_161 (a0 := (41, .inl (fun _ => 0))) (fun _ => rfl) (by decide) (N' := 41) (by decide) (Nat.le_of_ble_eq_true rfl) (Nat.le_of_ble_eq_true rfl) (Nat.le_of_ble_eq_true rfl) dX11_init_108 (fun q_278 H nq_278 h => ?_)
  obtain ⟨τ_280, f_279, ef_, t, kx, zx, gx, gw_, tq_278, kq_278⟩ := st_new (tg := 71) (e := .inl (G 1, 41, .inl (fun _ => 0))) t kx zx gx nq_278 (fw_71 _ ⟨_, rfl, fun _ => ⟨by decide, by decide⟩⟩)
  rw [ef_] at h
  have bq_230 := bq_230.tr gw_
  have bq_234 := bq_234.tr gw_
  have bq_238 := bq_238.tr gw_
  have bq_242 := bq_242.tr gw_
  have bq_246 := bq_246.tr gw_
  have bq_250 := bq_250.tr gw_
  have bq_254 := bq_254.tr gw_
  have bq_258 := bq_258.tr gw_
  have bq_262 := bq_262.tr gw_
  have bq_266 := bq_266.tr gw_
  have bq_270 := bq_270.tr gw_
  have bq_274 := bq_274.tr gw_
  have bq_278 := Gw.rf τ_280 f_279
  refine q_put C h kx flw_X11_48 (Or.inl hini) (v := .ref q_278) rfl rfl (Nat.le_of_ble_eq_true rfl) dX11_init_110 (fun H locs h => ?_)
  have h : hw D b0 s.heap (hu f_279 x (.inr (12, [.int 0, .ref q_230, .int 0, .int 0, .int 0, .ref q_234, .ref q_238, .ref q_242, .ref q_246, .ref q_250, .int 0, .int 0, .ref q_254, .ref q_258, .int 0, .ref q_262, .ref q_266, .ref q_270, .long 0, .ref q_274, .ref q_278, .null, .null, .null, .null, .null, .null, .int 0, .int 0, .null, .null, .int 0]))) H locs := h
  obtain ⟨f_281, ef_, t, kx, gx, gw_⟩ := st_put t zx gx (.inr (12, [.int 0, .ref q_230, .int 0, .int 0, .int 0, .ref q_234, .ref q_238, .ref q_242, .ref q_246, .ref q_250, .int 0, .int 0, .ref q_254, .ref q_258, .int 0, .ref q_262, .ref q_266, .ref q_270, .long 0, .ref q_274, .ref q_278, .null, .null, .null, .null, .null, .null, .int 0, .int 0, .null, .null, .int 0]))
  rw [ef_] at h
  have bq_230 := bq_230.tr gw_
  have bq_234 := bq_234.tr gw_
  have bq_238 := bq_238.tr gw_
  have bq_242 := bq_242.tr gw_
  have bq_246 := bq_246.tr gw_
  have bq_250 := bq_250.tr gw_
  have bq_254 := bq_254.tr gw_
  have bq_258 := bq_258.tr gw_
  have bq_262 := bq_262.tr gw_
  have bq_266 := bq_266.tr gw_
  have bq_270 := bq_270.tr gw_
  have bq_274 := bq_274.tr gw_
  have bq_278 := bq_278.tr gw_
  refine lv_aload_n hx hb dX11_init_113 rfl (lv_at hl 0 rfl) ?_
  refine lv_bipush (v := 41) hx hb dX11_init_114 (by decide) ?_
  refine q_newa C h (atype := .int) 1 rfl rfl rfl w_161 (a0 := (41, .inl (fun _ => 0))) (fun _ => rfl) (by decide) (N' := 41) (by decide) (Nat.le_of_ble_eq_true rfl) (Nat.le_of_ble_eq_true rfl) (Nat.le_of_ble_eq_true rfl) dX11_init_116 (fun q_282 H nq_282 h => ?_)
  obtain ⟨τ_284, f_283, ef_, t, kx, zx, gx, gw_, tq_282, kq_282⟩ := st_new (tg := 81) (e := .inl (G 1, 41, .inl (fun _ => 0))) t kx zx gx nq_282 (fw_81 _ ⟨_, rfl, fun _ => ⟨by decide, by decide⟩⟩)
  rw [ef_] at h
  have bq_230 := bq_230.tr gw_
  have bq_234 := bq_234.tr gw_
  have bq_238 := bq_238.tr gw_
  have bq_242 := bq_242.tr gw_
  have bq_246 := bq_246.tr gw_
  have bq_250 := bq_250.tr gw_
  have bq_254 := bq_254.tr gw_
  have bq_258 := bq_258.tr gw_
  have bq_262 := bq_262.tr gw_
  have bq_266 := bq_266.tr gw_
  have bq_270 := bq_270.tr gw_
  have bq_274 := bq_274.tr gw_
  have bq_278 := bq_278.tr gw_
  have bq_282 := Gw.rf τ_284 f_283
  refine q_put C h kx flw_X11_51 (Or.inl hini) (v := .ref q_282) rfl rfl (Nat.le_of_ble_eq_true rfl) dX11_init_118 (fun H locs h => ?_)
  have h : hw D b0 s.heap (hu f_283 x (.inr (12, [.int 0, .ref q_230, .int 0, .int 0, .int 0, .ref q_234, .ref q_238, .ref q_242, .ref q_246, .ref q_250, .int 0, .int 0, .ref q_254, .ref q_258, .int 0, .ref q_262, .ref q_266, .ref q_270, .long 0, .ref q_274, .ref q_278, .ref q_282, .null, .null, .null, .null, .null, .int 0, .int 0, .null, .null, .int 0]))) H locs := h
  obtain ⟨f_285, ef_, t, kx, gx, gw_⟩ := st_put t zx gx (.inr (12, [.int 0, .ref q_230, .int 0, .int 0, .int 0, .ref q_234, .ref q_238, .ref q_242, .ref q_246, .ref q_250, .int 0, .int 0, .ref q_254, .ref q_258, .int 0, .ref q_262, .ref q_266, .ref q_270, .long 0, .ref q_274, .ref q_278, .ref q_282, .null, .null, .null, .null, .null, .int 0, .int 0, .null, .null, .int 0]))
  rw [ef_] at h
  have bq_230 := bq_230.tr gw_
  have bq_234 := bq_234.tr gw_
  have bq_238 := bq_238.tr gw_
  have bq_242 := bq_242.tr gw_
  have bq_246 := bq_246.tr gw_
  have bq_250 := bq_250.tr gw_
  have bq_254 := bq_254.tr gw_
  have bq_258 := bq_258.tr gw_
  have bq_262 := bq_262.tr gw_
  have bq_266 := bq_266.tr gw_
  have bq_270 := bq_270.tr gw_
  have bq_274 := bq_274.tr gw_
  have bq_278 := bq_278.tr gw_
  have bq_282 := bq_282.tr gw_
  refine lv_aload_n hx hb dX11_init_121 rfl (lv_at hl 0 rfl) ?_
  refine lv_sipush (v := 1708) hx hb dX11_init_122 (by decide) ?_
  refine q_newa C h (atype := .long) 2 rfl rfl rfl w_235 (a0 := (1708, .inr (.inl (fun _ => 0)))) (fun _ => rfl) (by decide) (N' := 1708) (by decide) (Nat.le_of_ble_eq_true rfl) (Nat.le_of_ble_eq_true rfl) (Nat.le_of_ble_eq_true rfl) dX11_init_125 (fun q_286 H nq_286 h => ?_)
  obtain ⟨τ_288, f_287, ef_, t, kx, zx, gx, gw_, tq_286, kq_286⟩ := st_new (tg := 72) (e := .inl (G 2, 1708, .inr (.inl (fun _ => 0)))) t kx zx gx nq_286 (fw_72 _ ⟨_, rfl⟩)
  rw [ef_] at h
  have bq_230 := bq_230.tr gw_
  have bq_234 := bq_234.tr gw_
  have bq_238 := bq_238.tr gw_
  have bq_242 := bq_242.tr gw_
  have bq_246 := bq_246.tr gw_
  have bq_250 := bq_250.tr gw_
  have bq_254 := bq_254.tr gw_
  have bq_258 := bq_258.tr gw_
  have bq_262 := bq_262.tr gw_
  have bq_266 := bq_266.tr gw_
  have bq_270 := bq_270.tr gw_
  have bq_274 := bq_274.tr gw_
  have bq_278 := bq_278.tr gw_
  have bq_282 := bq_282.tr gw_
  have bq_286 := Gw.rf τ_288 f_287
  refine q_put C h kx flw_X11_54 (Or.inl hini) (v := .ref q_286) rfl rfl (Nat.le_of_ble_eq_true rfl) dX11_init_127 (fun H locs h => ?_)
  have h : hw D b0 s.heap (hu f_287 x (.inr (12, [.int 0, .ref q_230, .int 0, .int 0, .int 0, .ref q_234, .ref q_238, .ref q_242, .ref q_246, .ref q_250, .int 0, .int 0, .ref q_254, .ref q_258, .int 0, .ref q_262, .ref q_266, .ref q_270, .long 0, .ref q_274, .ref q_278, .ref q_282, .ref q_286, .null, .null, .null, .null, .int 0, .int 0, .null, .null, .int 0]))) H locs := h
  obtain ⟨f_289, ef_, t, kx, gx, gw_⟩ := st_put t zx gx (.inr (12, [.int 0, .ref q_230, .int 0, .int 0, .int 0, .ref q_234, .ref q_238, .ref q_242, .ref q_246, .ref q_250, .int 0, .int 0, .ref q_254, .ref q_258, .int 0, .ref q_262, .ref q_266, .ref q_270, .long 0, .ref q_274, .ref q_278, .ref q_282, .ref q_286, .null, .null, .null, .null, .int 0, .int 0, .null, .null, .int 0]))
  rw [ef_] at h
  have bq_230 := bq_230.tr gw_
  have bq_234 := bq_234.tr gw_
  have bq_238 := bq_238.tr gw_
  have bq_242 := bq_242.tr gw_
  have bq_246 := bq_246.tr gw_
  have bq_250 := bq_250.tr gw_
  have bq_254 := bq_254.tr gw_
  have bq_258 := bq_258.tr gw_
  have bq_262 := bq_262.tr gw_
  have bq_266 := bq_266.tr gw_
  have bq_270 := bq_270.tr gw_
  have bq_274 := bq_274.tr gw_
  have bq_278 := bq_278.tr gw_
  have bq_282 := bq_282.tr gw_
  have bq_286 := bq_286.tr gw_
  refine lv_aload_n hx hb dX11_init_130 rfl (lv_at hl 0 rfl) ?_
  refine lv_sipush (v := 1708) hx hb dX11_init_131 (by decide) ?_
  refine q_newa C h (atype := .long) 2 rfl rfl rfl w_235 (a0 := (1708, .inr (.inl (fun _ => 0)))) (fun _ => rfl) (by decide) (N' := 1708) (by decide) (Nat.le_of_ble_eq_true rfl) (Nat.le_of_ble_eq_true rfl) (Nat.le_of_ble_eq_true rfl) dX11_init_134 (fun q_290 H nq_290 h => ?_)
  obtain ⟨τ_292, f_291, ef_, t, kx, zx, gx, gw_, tq_290, kq_290⟩ := st_new (tg := 72) (e := .inl (G 2, 1708, .inr (.inl (fun _ => 0)))) t kx zx gx nq_290 (fw_72 _ ⟨_, rfl⟩)
  rw [ef_] at h
  have bq_230 := bq_230.tr gw_
  have bq_234 := bq_234.tr gw_
  have bq_238 := bq_238.tr gw_
  have bq_242 := bq_242.tr gw_
  have bq_246 := bq_246.tr gw_
  have bq_250 := bq_250.tr gw_
  have bq_254 := bq_254.tr gw_
  have bq_258 := bq_258.tr gw_
  have bq_262 := bq_262.tr gw_
  have bq_266 := bq_266.tr gw_
  have bq_270 := bq_270.tr gw_
  have bq_274 := bq_274.tr gw_
  have bq_278 := bq_278.tr gw_
  have bq_282 := bq_282.tr gw_
  have bq_286 := bq_286.tr gw_
  have bq_290 := Gw.rf τ_292 f_291
  refine q_put C h kx flw_X11_57 (Or.inl hini) (v := .ref q_290) rfl rfl (Nat.le_of_ble_eq_true rfl) dX11_init_136 (fun H locs h => ?_)
  have h : hw D b0 s.heap (hu f_291 x (.inr (12, [.int 0, .ref q_230, .int 0, .int 0, .int 0, .ref q_234, .ref q_238, .ref q_242, .ref q_246, .ref q_250, .int 0, .int 0, .ref q_254, .ref q_258, .int 0, .ref q_262, .ref q_266, .ref q_270, .long 0, .ref q_274, .ref q_278, .ref q_282, .ref q_286, .ref q_290, .null, .null, .null, .int 0, .int 0, .null, .null, .int 0]))) H locs := h
  obtain ⟨f_293, ef_, t, kx, gx, gw_⟩ := st_put t zx gx (.inr (12, [.int 0, .ref q_230, .int 0, .int 0, .int 0, .ref q_234, .ref q_238, .ref q_242, .ref q_246, .ref q_250, .int 0, .int 0, .ref q_254, .ref q_258, .int 0, .ref q_262, .ref q_266, .ref q_270, .long 0, .ref q_274, .ref q_278, .ref q_282, .ref q_286, .ref q_290, .null, .null, .null, .int 0, .int 0, .null, .null, .int 0]))
  rw [ef_] at h
  have bq_230 := bq_230.tr gw_
  have bq_234 := bq_234.tr gw_
  have bq_238 := bq_238.tr gw_
  have bq_242 := bq_242.tr gw_
  have bq_246 := bq_246.tr gw_
  have bq_250 := bq_250.tr gw_
  have bq_254 := bq_254.tr gw_
  have bq_258 := bq_258.tr gw_
  have bq_262 := bq_262.tr gw_
  have bq_266 := bq_266.tr gw_
  have bq_270 := bq_270.tr gw_
  have bq_274 := bq_274.tr gw_
  have bq_278 := bq_278.tr gw_
  have bq_282 := bq_282.tr gw_
  have bq_286 := bq_286.tr gw_
  have bq_290 := bq_290.tr gw_
  refine lv_aload_n hx hb dX11_init_139 rfl (lv_at hl 0 rfl) ?_
  refine lv_sipush (v := 784) hx hb dX11_init_140 (by decide) ?_
  refine q_newa C h (atype := .long) 2 rfl rfl rfl w_235 (a0 := (784, .inr (.inl (fun _ => 0)))) (fun _ => rfl) (by decide) (N' := 784) (by decide) (Nat.le_of_ble_eq_true rfl) (Nat.le_of_ble_eq_true rfl) (Nat.le_of_ble_eq_true rfl) dX11_init_143 (fun q_294 H nq_294 h => ?_)
  obtain ⟨τ_296, f_295, ef_, t, kx, zx, gx, gw_, tq_294, kq_294⟩ := st_new (tg := 73) (e := .inl (G 2, 784, .inr (.inl (fun _ => 0)))) t kx zx gx nq_294 (fw_73 _ ⟨_, rfl⟩)
  rw [ef_] at h
  have bq_230 := bq_230.tr gw_
  have bq_234 := bq_234.tr gw_
  have bq_238 := bq_238.tr gw_
  have bq_242 := bq_242.tr gw_
  have bq_246 := bq_246.tr gw_
  have bq_250 := bq_250.tr gw_
  have bq_254 := bq_254.tr gw_
  have bq_258 := bq_258.tr gw_
  have bq_262 := bq_262.tr gw_
  have bq_266 := bq_266.tr gw_
  have bq_270 := bq_270.tr gw_
  have bq_274 := bq_274.tr gw_
  have bq_278 := bq_278.tr gw_
  have bq_282 := bq_282.tr gw_
  have bq_286 := bq_286.tr gw_
  have bq_290 := bq_290.tr gw_
  have bq_294 := Gw.rf τ_296 f_295
  refine q_put C h kx flw_X11_60 (Or.inl hini) (v := .ref q_294) rfl rfl (Nat.le_of_ble_eq_true rfl) dX11_init_145 (fun H locs h => ?_)
  have h : hw D b0 s.heap (hu f_295 x (.inr (12, [.int 0, .ref q_230, .int 0, .int 0, .int 0, .ref q_234, .ref q_238, .ref q_242, .ref q_246, .ref q_250, .int 0, .int 0, .ref q_254, .ref q_258, .int 0, .ref q_262, .ref q_266, .ref q_270, .long 0, .ref q_274, .ref q_278, .ref q_282, .ref q_286, .ref q_290, .ref q_294, .null, .null, .int 0, .int 0, .null, .null, .int 0]))) H locs := h
  obtain ⟨f_297, ef_, t, kx, gx, gw_⟩ := st_put t zx gx (.inr (12, [.int 0, .ref q_230, .int 0, .int 0, .int 0, .ref q_234, .ref q_238, .ref q_242, .ref q_246, .ref q_250, .int 0, .int 0, .ref q_254, .ref q_258, .int 0, .ref q_262, .ref q_266, .ref q_270, .long 0, .ref q_274, .ref q_278, .ref q_282, .ref q_286, .ref q_290, .ref q_294, .null, .null, .int 0, .int 0, .null, .null, .int 0]))
  rw [ef_] at h
  have bq_230 := bq_230.tr gw_
  have bq_234 := bq_234.tr gw_
  have bq_238 := bq_238.tr gw_
  have bq_242 := bq_242.tr gw_
  have bq_246 := bq_246.tr gw_
  have bq_250 := bq_250.tr gw_
  have bq_254 := bq_254.tr gw_
  have bq_258 := bq_258.tr gw_
  have bq_262 := bq_262.tr gw_
  have bq_266 := bq_266.tr gw_
  have bq_270 := bq_270.tr gw_
  have bq_274 := bq_274.tr gw_
  have bq_278 := bq_278.tr gw_
  have bq_282 := bq_282.tr gw_
  have bq_286 := bq_286.tr gw_
  have bq_290 := bq_290.tr gw_
  have bq_294 := bq_294.tr gw_
  refine lv_aload_n hx hb dX11_init_148 rfl (lv_at hl 0 rfl) ?_
  refine lv_bipush (v := 28) hx hb dX11_init_149 (by decide) ?_
  refine q_newa C h (atype := .long) 2 rfl rfl rfl w_235 (a0 := (28, .inr (.inl (fun _ => 0)))) (fun _ => rfl) (by decide) (N' := 28) (by decide) (Nat.le_of_ble_eq_true rfl) (Nat.le_of_ble_eq_true rfl) (Nat.le_of_ble_eq_true rfl) dX11_init_151 (fun q_298 H nq_298 h => ?_)
  obtain ⟨τ_300, f_299, ef_, t, kx, zx, gx, gw_, tq_298, kq_298⟩ := st_new (tg := 74) (e := .inl (G 2, 28, .inr (.inl (fun _ => 0)))) t kx zx gx nq_298 (fw_74 _ ⟨_, rfl⟩)
  rw [ef_] at h
  have bq_230 := bq_230.tr gw_
  have bq_234 := bq_234.tr gw_
  have bq_238 := bq_238.tr gw_
  have bq_242 := bq_242.tr gw_
  have bq_246 := bq_246.tr gw_
  have bq_250 := bq_250.tr gw_
  have bq_254 := bq_254.tr gw_
  have bq_258 := bq_258.tr gw_
  have bq_262 := bq_262.tr gw_
  have bq_266 := bq_266.tr gw_
  have bq_270 := bq_270.tr gw_
  have bq_274 := bq_274.tr gw_
  have bq_278 := bq_278.tr gw_
  have bq_282 := bq_282.tr gw_
  have bq_286 := bq_286.tr gw_
  have bq_290 := bq_290.tr gw_
  have bq_294 := bq_294.tr gw_
  have bq_298 := Gw.rf τ_300 f_299
  refine q_put C h kx flw_X11_63 (Or.inl hini) (v := .ref q_298) rfl rfl (Nat.le_of_ble_eq_true rfl) dX11_init_153 (fun H locs h => ?_)
  have h : hw D b0 s.heap (hu f_299 x (.inr (12, [.int 0, .ref q_230, .int 0, .int 0, .int 0, .ref q_234, .ref q_238, .ref q_242, .ref q_246, .ref q_250, .int 0, .int 0, .ref q_254, .ref q_258, .int 0, .ref q_262, .ref q_266, .ref q_270, .long 0, .ref q_274, .ref q_278, .ref q_282, .ref q_286, .ref q_290, .ref q_294, .ref q_298, .null, .int 0, .int 0, .null, .null, .int 0]))) H locs := h
  obtain ⟨f_301, ef_, t, kx, gx, gw_⟩ := st_put t zx gx (.inr (12, [.int 0, .ref q_230, .int 0, .int 0, .int 0, .ref q_234, .ref q_238, .ref q_242, .ref q_246, .ref q_250, .int 0, .int 0, .ref q_254, .ref q_258, .int 0, .ref q_262, .ref q_266, .ref q_270, .long 0, .ref q_274, .ref q_278, .ref q_282, .ref q_286, .ref q_290, .ref q_294, .ref q_298, .null, .int 0, .int 0, .null, .null, .int 0]))
  rw [ef_] at h
  have bq_230 := bq_230.tr gw_
  have bq_234 := bq_234.tr gw_
  have bq_238 := bq_238.tr gw_
  have bq_242 := bq_242.tr gw_
  have bq_246 := bq_246.tr gw_
  have bq_250 := bq_250.tr gw_
  have bq_254 := bq_254.tr gw_
  have bq_258 := bq_258.tr gw_
  have bq_262 := bq_262.tr gw_
  have bq_266 := bq_266.tr gw_
  have bq_270 := bq_270.tr gw_
  have bq_274 := bq_274.tr gw_
  have bq_278 := bq_278.tr gw_
  have bq_282 := bq_282.tr gw_
  have bq_286 := bq_286.tr gw_
  have bq_290 := bq_290.tr gw_
  have bq_294 := bq_294.tr gw_
  have bq_298 := bq_298.tr gw_
  refine lv_aload_n hx hb dX11_init_156 rfl (lv_at hl 0 rfl) ?_
  refine lv_bipush (v := 28) hx hb dX11_init_157 (by decide) ?_
  refine q_newa C h (atype := .int) 1 rfl rfl rfl w_161 (a0 := (28, .inl (fun _ => 0))) (fun _ => rfl) (by decide) (N' := 28) (by decide) (Nat.le_of_ble_eq_true rfl) (Nat.le_of_ble_eq_true rfl) (Nat.le_of_ble_eq_true rfl) dX11_init_159 (fun q_302 H nq_302 h => ?_)
  obtain ⟨τ_304, f_303, ef_, t, kx, zx, gx, gw_, tq_302, kq_302⟩ := st_new (tg := 75) (e := .inl (G 1, 28, .inl (fun _ => 0))) t kx zx gx nq_302 (fw_75 _ ⟨_, rfl, fun _ => ⟨by decide, by decide⟩⟩)
  rw [ef_] at h
  have bq_230 := bq_230.tr gw_
  have bq_234 := bq_234.tr gw_
  have bq_238 := bq_238.tr gw_
  have bq_242 := bq_242.tr gw_
  have bq_246 := bq_246.tr gw_
  have bq_250 := bq_250.tr gw_
  have bq_254 := bq_254.tr gw_
  have bq_258 := bq_258.tr gw_
  have bq_262 := bq_262.tr gw_
  have bq_266 := bq_266.tr gw_
  have bq_270 := bq_270.tr gw_
  have bq_274 := bq_274.tr gw_
  have bq_278 := bq_278.tr gw_
  have bq_282 := bq_282.tr gw_
  have bq_286 := bq_286.tr gw_
  have bq_290 := bq_290.tr gw_
  have bq_294 := bq_294.tr gw_
  have bq_298 := bq_298.tr gw_
  have bq_302 := Gw.rf τ_304 f_303
  refine q_put C h kx flw_X11_66 (Or.inl hini) (v := .ref q_302) rfl rfl (Nat.le_of_ble_eq_true rfl) dX11_init_161 (fun H locs h => ?_)
  have h : hw D b0 s.heap (hu f_303 x (.inr (12, [.int 0, .ref q_230, .int 0, .int 0, .int 0, .ref q_234, .ref q_238, .ref q_242, .ref q_246, .ref q_250, .int 0, .int 0, .ref q_254, .ref q_258, .int 0, .ref q_262, .ref q_266, .ref q_270, .long 0, .ref q_274, .ref q_278, .ref q_282, .ref q_286, .ref q_290, .ref q_294, .ref q_298, .ref q_302, .int 0, .int 0, .null, .null, .int 0]))) H locs := h
  obtain ⟨f_305, ef_, t, kx, gx, gw_⟩ := st_put t zx gx (.inr (12, [.int 0, .ref q_230, .int 0, .int 0, .int 0, .ref q_234, .ref q_238, .ref q_242, .ref q_246, .ref q_250, .int 0, .int 0, .ref q_254, .ref q_258, .int 0, .ref q_262, .ref q_266, .ref q_270, .long 0, .ref q_274, .ref q_278, .ref q_282, .ref q_286, .ref q_290, .ref q_294, .ref q_298, .ref q_302, .int 0, .int 0, .null, .null, .int 0]))
  rw [ef_] at h
  have bq_230 := bq_230.tr gw_
  have bq_234 := bq_234.tr gw_
  have bq_238 := bq_238.tr gw_
  have bq_242 := bq_242.tr gw_
  have bq_246 := bq_246.tr gw_
  have bq_250 := bq_250.tr gw_
  have bq_254 := bq_254.tr gw_
  have bq_258 := bq_258.tr gw_
  have bq_262 := bq_262.tr gw_
  have bq_266 := bq_266.tr gw_
  have bq_270 := bq_270.tr gw_
  have bq_274 := bq_274.tr gw_
  have bq_278 := bq_278.tr gw_
  have bq_282 := bq_282.tr gw_
  have bq_286 := bq_286.tr gw_
  have bq_290 := bq_290.tr gw_
  have bq_294 := bq_294.tr gw_
  have bq_298 := bq_298.tr gw_
  have bq_302 := bq_302.tr gw_
  refine lv_aload_n hx hb dX11_init_164 rfl (lv_at hl 0 rfl) ?_
  refine lv_sipush (v := 244) hx hb dX11_init_165 (by decide) ?_
  refine q_newa C h (atype := .long) 2 rfl rfl rfl w_235 (a0 := (244, .inr (.inl (fun _ => 0)))) (fun _ => rfl) (by decide) (N' := 244) (by decide) (Nat.le_of_ble_eq_true rfl) (Nat.le_of_ble_eq_true rfl) (Nat.le_of_ble_eq_true rfl) dX11_init_168 (fun q_306 H nq_306 h => ?_)
  obtain ⟨τ_308, f_307, ef_, t, kx, zx, gx, gw_, tq_306, kq_306⟩ := st_new (tg := 76) (e := .inl (G 2, 244, .inr (.inl (fun _ => 0)))) t kx zx gx nq_306 (fw_76 _ ⟨_, rfl⟩)
  rw [ef_] at h
  have bq_230 := bq_230.tr gw_
  have bq_234 := bq_234.tr gw_
  have bq_238 := bq_238.tr gw_
  have bq_242 := bq_242.tr gw_
  have bq_246 := bq_246.tr gw_
  have bq_250 := bq_250.tr gw_
  have bq_254 := bq_254.tr gw_
  have bq_258 := bq_258.tr gw_
  have bq_262 := bq_262.tr gw_
  have bq_266 := bq_266.tr gw_
  have bq_270 := bq_270.tr gw_
  have bq_274 := bq_274.tr gw_
  have bq_278 := bq_278.tr gw_
  have bq_282 := bq_282.tr gw_
  have bq_286 := bq_286.tr gw_
  have bq_290 := bq_290.tr gw_
  have bq_294 := bq_294.tr gw_
  have bq_298 := bq_298.tr gw_
  have bq_302 := bq_302.tr gw_
  have bq_306 := Gw.rf τ_308 f_307
  refine q_put C h kx flw_X11_69 (Or.inl hini) (v := .ref q_306) rfl rfl (Nat.le_of_ble_eq_true rfl) dX11_init_170 (fun H locs h => ?_)
  have h : hw D b0 s.heap (hu f_307 x (.inr (12, [.int 0, .ref q_230, .int 0, .int 0, .int 0, .ref q_234, .ref q_238, .ref q_242, .ref q_246, .ref q_250, .int 0, .int 0, .ref q_254, .ref q_258, .int 0, .ref q_262, .ref q_266, .ref q_270, .long 0, .ref q_274, .ref q_278, .ref q_282, .ref q_286, .ref q_290, .ref q_294, .ref q_298, .ref q_302, .int 0, .int 0, .ref q_306, .null, .int 0]))) H locs := h
  obtain ⟨f_309, ef_, t, kx, gx, gw_⟩ := st_put t zx gx (.inr (12, [.int 0, .ref q_230, .int 0, .int 0, .int 0, .ref q_234, .ref q_238, .ref q_242, .ref q_246, .ref q_250, .int 0, .int 0, .ref q_254, .ref q_258, .int 0, .ref q_262, .ref q_266, .ref q_270, .long 0, .ref q_274, .ref q_278, .ref q_282, .ref q_286, .ref q_290, .ref q_294, .ref q_298, .ref q_302, .int 0, .int 0, .ref q_306, .null, .int 0]))
  rw [ef_] at h
  have bq_230 := bq_230.tr gw_
  have bq_234 := bq_234.tr gw_
  have bq_238 := bq_238.tr gw_
  have bq_242 := bq_242.tr gw_
  have bq_246 := bq_246.tr gw_
  have bq_250 := bq_250.tr gw_
  have bq_254 := bq_254.tr gw_
  have bq_258 := bq_258.tr gw_
  have bq_262 := bq_262.tr gw_
  have bq_266 := bq_266.tr gw_
  have bq_270 := bq_270.tr gw_
  have bq_274 := bq_274.tr gw_
  have bq_278 := bq_278.tr gw_
  have bq_282 := bq_282.tr gw_
  have bq_286 := bq_286.tr gw_
  have bq_290 := bq_290.tr gw_
  have bq_294 := bq_294.tr gw_
  have bq_298 := bq_298.tr gw_
  have bq_302 := bq_302.tr gw_
  have bq_306 := bq_306.tr gw_
  refine lv_aload_n hx hb dX11_init_173 rfl (lv_at hl 0 rfl) ?_
  refine lv_bipush (v := 80) hx hb dX11_init_174 (by decide) ?_
  refine q_newa C h (atype := .int) 1 rfl rfl rfl w_161 (a0 := (80, .inl (fun _ => 0))) (fun _ => rfl) (by decide) (N' := 80) (by decide) (Nat.le_of_ble_eq_true rfl) (Nat.le_of_ble_eq_true rfl) (Nat.le_of_ble_eq_true rfl) dX11_init_176 (fun q_310 H nq_310 h => ?_)
  obtain ⟨τ_312, f_311, ef_, t, kx, zx, gx, gw_, tq_310, kq_310⟩ := st_new (tg := 77) (e := .inl (G 1, 80, .inl (fun _ => 0))) t kx zx gx nq_310 (fw_77 _ ⟨_, rfl, fun _ => ⟨by decide, by decide⟩⟩)
  rw [ef_] at h
  have bq_230 := bq_230.tr gw_
  have bq_234 := bq_234.tr gw_
  have bq_238 := bq_238.tr gw_
  have bq_242 := bq_242.tr gw_
  have bq_246 := bq_246.tr gw_
  have bq_250 := bq_250.tr gw_
  have bq_254 := bq_254.tr gw_
  have bq_258 := bq_258.tr gw_
  have bq_262 := bq_262.tr gw_
  have bq_266 := bq_266.tr gw_
  have bq_270 := bq_270.tr gw_
  have bq_274 := bq_274.tr gw_
  have bq_278 := bq_278.tr gw_
  have bq_282 := bq_282.tr gw_
  have bq_286 := bq_286.tr gw_
  have bq_290 := bq_290.tr gw_
  have bq_294 := bq_294.tr gw_
  have bq_298 := bq_298.tr gw_
  have bq_302 := bq_302.tr gw_
  have bq_306 := bq_306.tr gw_
  have bq_310 := Gw.rf τ_312 f_311
  refine q_put C h kx flw_X11_72 (Or.inl hini) (v := .ref q_310) rfl rfl (Nat.le_of_ble_eq_true rfl) dX11_init_178 (fun H locs h => ?_)
  have h : hw D b0 s.heap (hu f_311 x (.inr (12, [.int 0, .ref q_230, .int 0, .int 0, .int 0, .ref q_234, .ref q_238, .ref q_242, .ref q_246, .ref q_250, .int 0, .int 0, .ref q_254, .ref q_258, .int 0, .ref q_262, .ref q_266, .ref q_270, .long 0, .ref q_274, .ref q_278, .ref q_282, .ref q_286, .ref q_290, .ref q_294, .ref q_298, .ref q_302, .int 0, .int 0, .ref q_306, .ref q_310, .int 0]))) H locs := h
  obtain ⟨f_313, ef_, t, kx, gx, gw_⟩ := st_put t zx gx (.inr (12, [.int 0, .ref q_230, .int 0, .int 0, .int 0, .ref q_234, .ref q_238, .ref q_242, .ref q_246, .ref q_250, .int 0, .int 0, .ref q_254, .ref q_258, .int 0, .ref q_262, .ref q_266, .ref q_270, .long 0, .ref q_274, .ref q_278, .ref q_282, .ref q_286, .ref q_290, .ref q_294, .ref q_298, .ref q_302, .int 0, .int 0, .ref q_306, .ref q_310, .int 0]))
  rw [ef_] at h
  have bq_230 := bq_230.tr gw_
  have bq_234 := bq_234.tr gw_
  have bq_238 := bq_238.tr gw_
  have bq_242 := bq_242.tr gw_
  have bq_246 := bq_246.tr gw_
  have bq_250 := bq_250.tr gw_
  have bq_254 := bq_254.tr gw_
  have bq_258 := bq_258.tr gw_
  have bq_262 := bq_262.tr gw_
  have bq_266 := bq_266.tr gw_
  have bq_270 := bq_270.tr gw_
  have bq_274 := bq_274.tr gw_
  have bq_278 := bq_278.tr gw_
  have bq_282 := bq_282.tr gw_
  have bq_286 := bq_286.tr gw_
  have bq_290 := bq_290.tr gw_
  have bq_294 := bq_294.tr gw_
  have bq_298 := bq_298.tr gw_
  have bq_302 := bq_302.tr gw_
  have bq_306 := bq_306.tr gw_
  have bq_310 := bq_310.tr gw_
  have wf_ : wf G 9 τ_312 60 (.inr (12, [.int 0, .ref q_230, .int 0, .int 0, .int 0, .ref q_234, .ref q_238, .ref q_242, .ref q_246, .ref q_250, .int 0, .int 0, .ref q_254, .ref q_258, .int 0, .ref q_262, .ref q_266, .ref q_270, .long 0, .ref q_274, .ref q_278, .ref q_282, .ref q_286, .ref q_290, .ref q_294, .ref q_298, .ref q_302, .int 0, .int 0, .ref q_306, .ref q_310, .int 0])) := fw_60 _ ⟨_, rfl, rfl, fun k_ T_ hk_ => by
    match k_, hk_ with
    | 0, hk_ => cases hk_; exact ⟨_, rfl, _, rfl, ⟨by decide, by decide⟩⟩
    | 1, hk_ => cases hk_; exact ⟨_, rfl, _, rfl, bq_230.tg tq_230 (by decide)⟩
    | 2, hk_ => cases hk_; exact ⟨_, rfl, _, rfl, ⟨by decide, by decide⟩⟩
    | 3, hk_ => cases hk_; exact ⟨_, rfl, _, rfl, ⟨by decide, by decide⟩⟩
    | 4, hk_ => cases hk_; exact ⟨_, rfl, _, rfl, ⟨by decide, by decide⟩⟩
    | 5, hk_ => cases hk_; exact ⟨_, rfl, _, rfl, bq_234.tg tq_234 (by decide)⟩
    | 6, hk_ => cases hk_; exact ⟨_, rfl, _, rfl, bq_238.tg tq_238 (by decide)⟩
    | 7, hk_ => cases hk_; exact ⟨_, rfl, _, rfl, bq_242.tg tq_242 (by decide)⟩
    | 8, hk_ => cases hk_; exact ⟨_, rfl, _, rfl, bq_246.tg tq_246 (by decide)⟩
    | 9, hk_ => cases hk_; exact ⟨_, rfl, _, rfl, bq_250.tg tq_250 (by decide)⟩
    | 10, hk_ => cases hk_; exact ⟨_, rfl, _, rfl, ⟨by decide, by decide⟩⟩
    | 11, hk_ => cases hk_; exact ⟨_, rfl, _, rfl, ⟨by decide, by decide⟩⟩
    | 12, hk_ => cases hk_; exact ⟨_, rfl, _, rfl, bq_254.tg tq_254 (by decide)⟩
    | 13, hk_ => cases hk_; exact ⟨_, rfl, _, rfl, bq_258.tg tq_258 (by decide)⟩
    | 14, hk_ => cases hk_; exact ⟨_, rfl, _, rfl, ⟨by decide, by decide⟩⟩
    | 15, hk_ => cases hk_; exact ⟨_, rfl, _, rfl, bq_262.tg tq_262 (by decide)⟩
    | 16, hk_ => cases hk_; exact ⟨_, rfl, _, rfl, bq_266.tg tq_266 (by decide)⟩
    | 17, hk_ => cases hk_; exact ⟨_, rfl, _, rfl, bq_270.tg tq_270 (by decide)⟩
    | 18, hk_ => cases hk_; exact ⟨_, rfl, _, rfl⟩
    | 19, hk_ => cases hk_; exact ⟨_, rfl, _, rfl, bq_274.tg tq_274 (by decide)⟩
    | 20, hk_ => cases hk_; exact ⟨_, rfl, _, rfl, bq_278.tg tq_278 (by decide)⟩
    | 21, hk_ => cases hk_; exact ⟨_, rfl, _, rfl, bq_282.tg tq_282 (by decide)⟩
    | 22, hk_ => cases hk_; exact ⟨_, rfl, _, rfl, bq_286.tg tq_286 (by decide)⟩
    | 23, hk_ => cases hk_; exact ⟨_, rfl, _, rfl, bq_290.tg tq_290 (by decide)⟩
    | 24, hk_ => cases hk_; exact ⟨_, rfl, _, rfl, bq_294.tg tq_294 (by decide)⟩
    | 25, hk_ => cases hk_; exact ⟨_, rfl, _, rfl, bq_298.tg tq_298 (by decide)⟩
    | 26, hk_ => cases hk_; exact ⟨_, rfl, _, rfl, bq_302.tg tq_302 (by decide)⟩
    | 27, hk_ => cases hk_; exact ⟨_, rfl, _, rfl, ⟨by decide, by decide⟩⟩
    | 28, hk_ => cases hk_; exact ⟨_, rfl, _, rfl, ⟨by decide, by decide⟩⟩
    | 29, hk_ => cases hk_; exact ⟨_, rfl, _, rfl, bq_306.tg tq_306 (by decide)⟩
    | 30, hk_ => cases hk_; exact ⟨_, rfl, _, rfl, bq_310.tg tq_310 (by decide)⟩
    | 31, hk_ => cases hk_; exact ⟨_, rfl, _, rfl, ⟨by decide, by decide⟩⟩
    | k_ + 32, hk_ => simp at hk_⟩
  obtain ⟨τe_, t, gx, gw_, tx_⟩ := st_tag t kx zx gx wf_
  have bq_230 := bq_230.tr gw_
  have bq_234 := bq_234.tr gw_
  have bq_238 := bq_238.tr gw_
  have bq_242 := bq_242.tr gw_
  have bq_246 := bq_246.tr gw_
  have bq_250 := bq_250.tr gw_
  have bq_254 := bq_254.tr gw_
  have bq_258 := bq_258.tr gw_
  have bq_262 := bq_262.tr gw_
  have bq_266 := bq_266.tr gw_
  have bq_270 := bq_270.tr gw_
  have bq_274 := bq_274.tr gw_
  have bq_278 := bq_278.tr gw_
  have bq_282 := bq_282.tr gw_
  have bq_286 := bq_286.tr gw_
  have bq_290 := bq_290.tr gw_
  have bq_294 := bq_294.tr gw_
  have bq_298 := bq_298.tr gw_
  have bq_302 := bq_302.tr gw_
  have bq_306 := bq_306.tr gw_
  have bq_310 := bq_310.tr gw_
  exact q_vret C h hr (⟨_, t, gx, tx_, (fun i => ([x, q_230, q_238, q_242, q_246, q_234, q_250] : List Nat).getD i 0), rfl, ⟨⟨tx_, bq_230.tg tq_230 (by decide), bq_238.tg tq_238 (by decide), bq_242.tg tq_242 (by decide), bq_246.tg tq_246 (by decide), bq_234.tg tq_234 (by decide)⟩, ⟨_, kx, _, _, rfl, rfl⟩, ⟨_, kx, _, _, rfl, rfl⟩, ⟨_, kx, _, _, rfl, rfl⟩, ⟨_, kx, _, _, rfl, rfl⟩, ⟨_, kx, _, _, rfl, rfl⟩⟩, ⟨_, _, dgg_, ⟨bq_254.tg tq_254 (by decide), bq_258.tg tq_258 (by decide)⟩, ⟨_, kx, _, _, rfl, rfl⟩, ⟨_, kx, _, _, rfl, rfl⟩⟩, ⟨_, kx, _, _, rfl, rfl⟩, ⟨_, kx, _, _, rfl, rfl⟩, ⟨_, kx, _, _, rfl, rfl⟩, bq_238.at tq_238 (by decide) ⟨_, kq_238, rfl⟩, bq_250.tg tq_250 (by decide), ⟨_, kx, _, _, rfl, rfl⟩, bq_250.at tq_250 (by decide) ⟨_, kq_250, rfl⟩⟩) (Nat.le_of_ble_eq_true rfl) (Nat.le_of_ble_eq_true rfl) dX11_init_181
