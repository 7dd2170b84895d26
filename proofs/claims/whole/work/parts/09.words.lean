theorem zm_f_X1_12 : Cond.fieldLink RX1 12 "VoiceFrames$Encoder" "inlet" "LVoiceFrames$Inlet;" ∈ zt_G := zt_m 167 (by decide +kernel) (by decide +kernel)
theorem zm_w_X1 : ∀ w ∈ wsX10, w ∈ zt_G := by decide +kernel
theorem zm_f_X1_60 : Cond.fieldLink RX1 60 "VoiceFrames$Encoder" "x" "[I" ∈ zt_G := zt_m 177 (by decide +kernel) (by decide +kernel)
theorem zm_f_X3_15 : Cond.fieldLink RX3 15 "VoiceFrames$Inlet" "last" "I" ∈ zt_G := zt_m 40 (by decide +kernel) (by decide +kernel)
theorem zm_w_X3 : ∀ w ∈ wsX30, w ∈ zt_G := by decide +kernel
theorem zm_k_X3_25 : Cond.constantLong RX3 25 (32768) ∈ zt_G := zt_m 512 (by decide +kernel) (by decide +kernel)
theorem zm_f_X3_19 : Cond.fieldLink RX3 19 "VoiceFrames$Inlet" "level" "I" ∈ zt_G := zt_m 41 (by decide +kernel) (by decide +kernel)
theorem zm_k_X3_27 : Cond.constant RX3 27 (32768) ∈ zt_G := zt_m 513 (by decide +kernel) (by decide +kernel)
theorem zm_k_X3_28 : Cond.constantLong RX3 28 (32735) ∈ zt_G := zt_m 514 (by decide +kernel) (by decide +kernel)
theorem zm_c_X4_cut : Cond.code yX4_cut cX4_cut 1 (some .int) ∈ zt_G := zt_m 322 (by decide +kernel) (by decide +kernel)
theorem zm_s_X4_cut : Cond.static yX4_cut ∈ zt_G := zt_m 321 (by decide +kernel) (by decide +kernel)
theorem zm_0_X4 : Cond.initialized RX4 ∈ zt_G := zt_m 17 (by decide +kernel) (by decide +kernel)
theorem zm_d_X4_cut : yX4_cut.cls ≠ "java/lang/invoke/MethodHandle" ∧ yX4_cut.cls ≠ "java/lang/invoke/VarHandle" ∧ (parseMethodDescriptor yX4_cut.desc).map (fun d => d.parameters.length) = some 1 := by decide +kernel
theorem zm_l_X4_9 : Cond.methodLink RX4 9 yX4_cut ∈ zt_G := zt_m 320 (by decide +kernel) (by decide +kernel)
theorem zm_c_X4_rounded : Cond.code yX4_rounded cX4_rounded 2 (some .int) ∈ zt_G := zt_m 319 (by decide +kernel) (by decide +kernel)
theorem zm_s_X4_rounded : Cond.static yX4_rounded ∈ zt_G := zt_m 318 (by decide +kernel) (by decide +kernel)
theorem zm_d_X4_rounded : yX4_rounded.cls ≠ "java/lang/invoke/MethodHandle" ∧ yX4_rounded.cls ≠ "java/lang/invoke/VarHandle" ∧ (parseMethodDescriptor yX4_rounded.desc).map (fun d => d.parameters.length) = some 2 := by decide +kernel
theorem zm_l_X3_30 : Cond.methodLink RX3 30 yX4_rounded ∈ zt_G := zt_m 515 (by decide +kernel) (by decide +kernel)
theorem zm_k_X3_45 : Cond.constantLong RX3 45 (-2147483648) ∈ zt_G := zt_m 519 (by decide +kernel) (by decide +kernel)
theorem zm_k_X3_47 : Cond.constantLong RX3 47 (2147483647) ∈ zt_G := zt_m 520 (by decide +kernel) (by decide +kernel)
theorem zm_c_X3_nearestInt : Cond.code yX3_nearestInt cX3_nearestInt 4 (some .int) ∈ zt_G := zt_m 518 (by decide +kernel) (by decide +kernel)
theorem zm_s_X3_nearestInt : Cond.static yX3_nearestInt ∈ zt_G := zt_m 517 (by decide +kernel) (by decide +kernel)
theorem zm_0_X3 : Cond.initialized RX3 ∈ zt_G := zt_m 3 (by decide +kernel) (by decide +kernel)
theorem zm_d_X3_nearestInt : yX3_nearestInt.cls ≠ "java/lang/invoke/MethodHandle" ∧ yX3_nearestInt.cls ≠ "java/lang/invoke/VarHandle" ∧ (parseMethodDescriptor yX3_nearestInt.desc).map (fun d => d.parameters.length) = some 1 := by decide +kernel
theorem zm_l_X3_36 : Cond.methodLink RX3 36 yX3_nearestInt ∈ zt_G := zt_m 516 (by decide +kernel) (by decide +kernel)
theorem zm_k_X3_40 : Cond.constantLong RX3 40 (16384) ∈ zt_G := zt_m 521 (by decide +kernel) (by decide +kernel)
theorem zm_l_X3_42 : Cond.methodLink RX3 42 yX4_cut ∈ zt_G := zt_m 522 (by decide +kernel) (by decide +kernel)
theorem zm_f_X3_22 : Cond.fieldLink RX3 22 "VoiceFrames$Inlet" "echo" "I" ∈ zt_G := zt_m 42 (by decide +kernel) (by decide +kernel)
theorem zm_c_X3_next : Cond.code yX3_next cX3_next 9 (some .int) ∈ zt_G := zt_m 511 (by decide +kernel) (by decide +kernel)
theorem zm_i_X3_next : Cond.instanceMethod yX3_next ∈ zt_G := zt_m 510 (by decide +kernel) (by decide +kernel)
theorem zm_e_X3_next : Cond.selects RX3 yX3_next yX3_next ∈ zt_G := zt_s 7 (by decide +kernel) (by decide +kernel)
theorem zm_d_X3_next : yX3_next.cls ≠ "java/lang/invoke/MethodHandle" ∧ yX3_next.cls ≠ "java/lang/invoke/VarHandle" ∧ (parseMethodDescriptor yX3_next.desc).map (fun d => d.parameters.length) = some 1 := by decide +kernel
theorem zm_l_X3_9 : Cond.methodLink RX3 9 yX3_next ∈ zt_G := zt_m 508 (by decide +kernel) (by decide +kernel)
theorem zm_c_X3_smooth : Cond.code yX3_smooth cX3_smooth 4 none ∈ zt_G := zt_m 507 (by decide +kernel) (by decide +kernel)
theorem zm_i_X3_smooth : Cond.instanceMethod yX3_smooth ∈ zt_G := zt_m 505 (by decide +kernel) (by decide +kernel)
theorem zm_e_X3_smooth : Cond.selects RX3 yX3_smooth yX3_smooth ∈ zt_G := zt_m 506 (by decide +kernel) (by decide +kernel)
theorem zm_d_X3_smooth : yX3_smooth.cls ≠ "java/lang/invoke/MethodHandle" ∧ yX3_smooth.cls ≠ "java/lang/invoke/VarHandle" ∧ (parseMethodDescriptor yX3_smooth.desc).map (fun d => d.parameters.length) = some 2 := by decide +kernel
theorem zm_l_X1_67 : Cond.methodLink RX1 67 yX3_smooth ∈ zt_G := zt_m 504 (by decide +kernel) (by decide +kernel)
theorem zm_f_X1_21 : Cond.fieldLink RX1 21 "VoiceFrames$Encoder" "prediction" "LVoiceFrames$Prediction;" ∈ zt_G := zt_m 169 (by decide +kernel) (by decide +kernel)
theorem zm_c_X4_size : Cond.code yX4_size cX4_size 1 (some .int) ∈ zt_G := zt_m 369 (by decide +kernel) (by decide +kernel)
theorem zm_s_X4_size : Cond.static yX4_size ∈ zt_G := zt_m 368 (by decide +kernel) (by decide +kernel)
theorem zm_d_X4_size : yX4_size.cls ≠ "java/lang/invoke/MethodHandle" ∧ yX4_size.cls ≠ "java/lang/invoke/VarHandle" ∧ (parseMethodDescriptor yX4_size.desc).map (fun d => d.parameters.length) = some 1 := by decide +kernel
theorem zm_l_X4_16 : Cond.methodLink RX4 16 yX4_size ∈ zt_G := zt_m 534 (by decide +kernel) (by decide +kernel)
theorem zm_c_X4_greatestSize : Cond.code yX4_greatestSize cX4_greatestSize 7 (some .int) ∈ zt_G := zt_m 533 (by decide +kernel) (by decide +kernel)
theorem zm_s_X4_greatestSize : Cond.static yX4_greatestSize ∈ zt_G := zt_m 532 (by decide +kernel) (by decide +kernel)
theorem zm_d_X4_greatestSize : yX4_greatestSize.cls ≠ "java/lang/invoke/MethodHandle" ∧ yX4_greatestSize.cls ≠ "java/lang/invoke/VarHandle" ∧ (parseMethodDescriptor yX4_greatestSize.desc).map (fun d => d.parameters.length) = some 4 := by decide +kernel
theorem zm_l_X6_45 : Cond.methodLink RX6 45 yX4_greatestSize ∈ zt_G := zt_m 531 (by decide +kernel) (by decide +kernel)
theorem zm_k_X4_15 : Cond.constant RX4 15 (1073741824) ∈ zt_G := zt_m 538 (by decide +kernel) (by decide +kernel)
theorem zm_c_X4_norm : Cond.code yX4_norm cX4_norm 3 (some .int) ∈ zt_G := zt_m 537 (by decide +kernel) (by decide +kernel)
theorem zm_s_X4_norm : Cond.static yX4_norm ∈ zt_G := zt_m 536 (by decide +kernel) (by decide +kernel)
theorem zm_d_X4_norm : yX4_norm.cls ≠ "java/lang/invoke/MethodHandle" ∧ yX4_norm.cls ≠ "java/lang/invoke/VarHandle" ∧ (parseMethodDescriptor yX4_norm.desc).map (fun d => d.parameters.length) = some 1 := by decide +kernel
theorem zm_l_X6_51 : Cond.methodLink RX6 51 yX4_norm ∈ zt_G := zt_m 535 (by decide +kernel) (by decide +kernel)
theorem zm_f_X6_9 : Cond.fieldLink RX6 9 "VoiceFrames$Prediction" "y" "[I" ∈ zt_G := zt_m 57 (by decide +kernel) (by decide +kernel)
theorem zm_w_X6 : ∀ w ∈ wsX60, w ∈ zt_G := by decide +kernel
theorem zm_l_X6_54 : Cond.methodLink RX6 54 yX4_rounded ∈ zt_G := zt_m 539 (by decide +kernel) (by decide +kernel)
theorem zm_l_X6_57 : Cond.methodLink RX6 57 yX4_cut ∈ zt_G := zt_m 540 (by decide +kernel) (by decide +kernel)
theorem zm_c_X6_lower : Cond.code yX6_lower cX6_lower 5 none ∈ zt_G := zt_m 530 (by decide +kernel) (by decide +kernel)
theorem zm_i_X6_lower : Cond.instanceMethod yX6_lower ∈ zt_G := zt_m 529 (by decide +kernel) (by decide +kernel)
theorem zm_e_X6_lower : Cond.selects RX6 yX6_lower yX6_lower ∈ zt_G := zt_s 8 (by decide +kernel) (by decide +kernel)
theorem zm_0_X6 : Cond.initialized RX6 ∈ zt_G := zt_m 4 (by decide +kernel) (by decide +kernel)
theorem zm_d_X6_lower : yX6_lower.cls ≠ "java/lang/invoke/MethodHandle" ∧ yX6_lower.cls ≠ "java/lang/invoke/VarHandle" ∧ (parseMethodDescriptor yX6_lower.desc).map (fun d => d.parameters.length) = some 1 := by decide +kernel
theorem zm_l_X6_27 : Cond.methodLink RX6 27 yX6_lower ∈ zt_G := zt_m 527 (by decide +kernel) (by decide +kernel)
theorem zm_f_X6_15 : Cond.fieldLink RX6 15 "VoiceFrames$Prediction" "sums" "[I" ∈ zt_G := zt_m 58 (by decide +kernel) (by decide +kernel)
theorem zm_c_X6_correlate : Cond.code yX6_correlate cX6_correlate 4 none ∈ zt_G := zt_m 544 (by decide +kernel) (by decide +kernel)
theorem zm_i_X6_correlate : Cond.instanceMethod yX6_correlate ∈ zt_G := zt_m 543 (by decide +kernel) (by decide +kernel)
theorem zm_e_X6_correlate : Cond.selects RX6 yX6_correlate yX6_correlate ∈ zt_G := zt_s 9 (by decide +kernel) (by decide +kernel)
theorem zm_d_X6_correlate : yX6_correlate.cls ≠ "java/lang/invoke/MethodHandle" ∧ yX6_correlate.cls ≠ "java/lang/invoke/VarHandle" ∧ (parseMethodDescriptor yX6_correlate.desc).map (fun d => d.parameters.length) = some 0 := by decide +kernel
theorem zm_l_X6_31 : Cond.methodLink RX6 31 yX6_correlate ∈ zt_G := zt_m 541 (by decide +kernel) (by decide +kernel)
theorem zm_f_X6_24 : Cond.fieldLink RX6 24 "VoiceFrames$Prediction" "\x72" "[I" ∈ zt_G := zt_m 61 (by decide +kernel) (by decide +kernel)
theorem zm_c_J7_fill_53178 : Cond.code yJ7_fill_53178 cJ7_fill_53178 4 none ∈ zt_G := zt_m 278 (by decide +kernel) (by decide +kernel)
theorem zm_s_J7_fill_53178 : Cond.static yJ7_fill_53178 ∈ zt_G := zt_m 277 (by decide +kernel) (by decide +kernel)
theorem zm_0_J7 : Cond.initialized RJ7 ∈ zt_G := zt_m 18 (by decide +kernel) (by decide +kernel)
theorem zm_d_J7_fill_53178 : yJ7_fill_53178.cls ≠ "java/lang/invoke/MethodHandle" ∧ yJ7_fill_53178.cls ≠ "java/lang/invoke/VarHandle" ∧ (parseMethodDescriptor yJ7_fill_53178.desc).map (fun d => d.parameters.length) = some 2 := by decide +kernel
theorem zm_l_X6_60 : Cond.methodLink RX6 60 yJ7_fill_53178 ∈ zt_G := zt_m 549 (by decide +kernel) (by decide +kernel)
theorem zm_f_X6_18 : Cond.fieldLink RX6 18 "VoiceFrames$Prediction" "p" "[I" ∈ zt_G := zt_m 59 (by decide +kernel) (by decide +kernel)
theorem zm_f_X6_21 : Cond.fieldLink RX6 21 "VoiceFrames$Prediction" "q" "[I" ∈ zt_G := zt_m 60 (by decide +kernel) (by decide +kernel)
theorem zm_l_X6_66 : Cond.methodLink RX6 66 yX4_size ∈ zt_G := zt_m 550 (by decide +kernel) (by decide +kernel)
theorem zm_k_X6_76 : Cond.constant RX6 76 (32768) ∈ zt_G := zt_m 554 (by decide +kernel) (by decide +kernel)
theorem zm_c_X6_reflection : Cond.code yX6_reflection cX6_reflection 4 (some .int) ∈ zt_G := zt_m 553 (by decide +kernel) (by decide +kernel)
theorem zm_s_X6_reflection : Cond.static yX6_reflection ∈ zt_G := zt_m 552 (by decide +kernel) (by decide +kernel)
theorem zm_d_X6_reflection : yX6_reflection.cls ≠ "java/lang/invoke/MethodHandle" ∧ yX6_reflection.cls ≠ "java/lang/invoke/VarHandle" ∧ (parseMethodDescriptor yX6_reflection.desc).map (fun d => d.parameters.length) = some 2 := by decide +kernel
theorem zm_l_X6_69 : Cond.methodLink RX6 69 yX6_reflection ∈ zt_G := zt_m 551 (by decide +kernel) (by decide +kernel)
theorem zm_c_X6_fold : Cond.code yX6_fold cX6_fold 4 none ∈ zt_G := zt_m 558 (by decide +kernel) (by decide +kernel)
theorem zm_i_X6_fold : Cond.instanceMethod yX6_fold ∈ zt_G := zt_m 557 (by decide +kernel) (by decide +kernel)
theorem zm_e_X6_fold : Cond.selects RX6 yX6_fold yX6_fold ∈ zt_G := zt_s 11 (by decide +kernel) (by decide +kernel)
theorem zm_d_X6_fold : yX6_fold.cls ≠ "java/lang/invoke/MethodHandle" ∧ yX6_fold.cls ≠ "java/lang/invoke/VarHandle" ∧ (parseMethodDescriptor yX6_fold.desc).map (fun d => d.parameters.length) = some 2 := by decide +kernel
theorem zm_l_X6_72 : Cond.methodLink RX6 72 yX6_fold ∈ zt_G := zt_m 555 (by decide +kernel) (by decide +kernel)
theorem zm_c_X6_reflect : Cond.code yX6_reflect cX6_reflect 3 none ∈ zt_G := zt_m 548 (by decide +kernel) (by decide +kernel)
theorem zm_i_X6_reflect : Cond.instanceMethod yX6_reflect ∈ zt_G := zt_m 547 (by decide +kernel) (by decide +kernel)
theorem zm_e_X6_reflect : Cond.selects RX6 yX6_reflect yX6_reflect ∈ zt_G := zt_s 10 (by decide +kernel) (by decide +kernel)
theorem zm_d_X6_reflect : yX6_reflect.cls ≠ "java/lang/invoke/MethodHandle" ∧ yX6_reflect.cls ≠ "java/lang/invoke/VarHandle" ∧ (parseMethodDescriptor yX6_reflect.desc).map (fun d => d.parameters.length) = some 0 := by decide +kernel
theorem zm_l_X6_34 : Cond.methodLink RX6 34 yX6_reflect ∈ zt_G := zt_m 545 (by decide +kernel) (by decide +kernel)
theorem zm_c_X4_withSignOf : Cond.code yX4_withSignOf cX4_withSignOf 2 (some .int) ∈ zt_G := zt_m 372 (by decide +kernel) (by decide +kernel)
theorem zm_s_X4_withSignOf : Cond.static yX4_withSignOf ∈ zt_G := zt_m 371 (by decide +kernel) (by decide +kernel)
theorem zm_d_X4_withSignOf : yX4_withSignOf.cls ≠ "java/lang/invoke/MethodHandle" ∧ yX4_withSignOf.cls ≠ "java/lang/invoke/VarHandle" ∧ (parseMethodDescriptor yX4_withSignOf.desc).map (fun d => d.parameters.length) = some 2 := by decide +kernel
theorem zm_l_X6_77 : Cond.methodLink RX6 77 yX4_withSignOf ∈ zt_G := zt_m 562 (by decide +kernel) (by decide +kernel)
theorem zm_c_X6_bent : Cond.code yX6_bent cX6_bent 3 (some .int) ∈ zt_G := zt_m 561 (by decide +kernel) (by decide +kernel)
theorem zm_s_X6_bent : Cond.static yX6_bent ∈ zt_G := zt_m 560 (by decide +kernel) (by decide +kernel)
theorem zm_d_X6_bent : yX6_bent.cls ≠ "java/lang/invoke/MethodHandle" ∧ yX6_bent.cls ≠ "java/lang/invoke/VarHandle" ∧ (parseMethodDescriptor yX6_bent.desc).map (fun d => d.parameters.length) = some 1 := by decide +kernel
theorem zm_l_X6_37 : Cond.methodLink RX6 37 yX6_bent ∈ zt_G := zt_m 559 (by decide +kernel) (by decide +kernel)
theorem zm_f_X6_80 : Cond.fieldLink RX6 80 "VoiceFrames$Prediction" "A" "[I" ∈ zt_G := zt_m 566 (by decide +kernel) (by decide +kernel)
theorem zm_c_X4_floored : Cond.code yX4_floored cX4_floored 2 (some .int) ∈ zt_G := zt_m 570 (by decide +kernel) (by decide +kernel)
theorem zm_s_X4_floored : Cond.static yX4_floored ∈ zt_G := zt_m 569 (by decide +kernel) (by decide +kernel)
theorem zm_d_X4_floored : yX4_floored.cls ≠ "java/lang/invoke/MethodHandle" ∧ yX4_floored.cls ≠ "java/lang/invoke/VarHandle" ∧ (parseMethodDescriptor yX4_floored.desc).map (fun d => d.parameters.length) = some 2 := by decide +kernel
theorem zm_l_X6_83 : Cond.methodLink RX6 83 yX4_floored ∈ zt_G := zt_m 568 (by decide +kernel) (by decide +kernel)
theorem zm_n_X6_86 : (RX6, 86, "VoiceFrames", "B", "[I") ∈ zn_F := by decide +kernel
theorem zm_n_X6_89 : (RX6, 89, "VoiceFrames", "LEAST", "[I") ∈ zn_F := by decide +kernel
theorem zm_f_X6_92 : Cond.fieldLink RX6 92 "VoiceFrames$Prediction" "MOST" "[I" ∈ zt_G := zt_m 573 (by decide +kernel) (by decide +kernel)
theorem zm_c_X6_filterNumber : Cond.code yX6_filterNumber cX6_filterNumber 5 (some .int) ∈ zt_G := zt_m 565 (by decide +kernel) (by decide +kernel)
theorem zm_s_X6_filterNumber : Cond.static yX6_filterNumber ∈ zt_G := zt_m 564 (by decide +kernel) (by decide +kernel)
theorem zm_d_X6_filterNumber : yX6_filterNumber.cls ≠ "java/lang/invoke/MethodHandle" ∧ yX6_filterNumber.cls ≠ "java/lang/invoke/VarHandle" ∧ (parseMethodDescriptor yX6_filterNumber.desc).map (fun d => d.parameters.length) = some 2 := by decide +kernel
theorem zm_l_X6_41 : Cond.methodLink RX6 41 yX6_filterNumber ∈ zt_G := zt_m 563 (by decide +kernel) (by decide +kernel)
theorem zm_c_X6_predict : Cond.code yX6_predict cX6_predict 4 none ∈ zt_G := zt_m 526 (by decide +kernel) (by decide +kernel)
theorem zm_i_X6_predict : Cond.instanceMethod yX6_predict ∈ zt_G := zt_m 524 (by decide +kernel) (by decide +kernel)
theorem zm_e_X6_predict : Cond.selects RX6 yX6_predict yX6_predict ∈ zt_G := zt_m 525 (by decide +kernel) (by decide +kernel)
theorem zm_d_X6_predict : yX6_predict.cls ≠ "java/lang/invoke/MethodHandle" ∧ yX6_predict.cls ≠ "java/lang/invoke/VarHandle" ∧ (parseMethodDescriptor yX6_predict.desc).map (fun d => d.parameters.length) = some 2 := by decide +kernel
theorem zm_l_X1_71 : Cond.methodLink RX1 71 yX6_predict ∈ zt_G := zt_m 523 (by decide +kernel) (by decide +kernel)
theorem zm_f_X1_28 : Cond.fieldLink RX1 28 "VoiceFrames$Encoder" "filter" "LVoiceFrames$Filter;" ∈ zt_G := zt_m 170 (by decide +kernel) (by decide +kernel)
theorem zm_f_X2_15 : Cond.fieldLink RX2 15 "VoiceFrames$Filter" "before" "[I" ∈ zt_G := zt_m 81 (by decide +kernel) (by decide +kernel)
theorem zm_w_X2 : ∀ w ∈ wsX20, w ∈ zt_G := by decide +kernel
theorem zm_f_X2_9 : Cond.fieldLink RX2 9 "VoiceFrames$Filter" "g" "[I" ∈ zt_G := zt_m 79 (by decide +kernel) (by decide +kernel)
theorem zm_n_X2_21 : (RX2, 21, "VoiceFrames", "LEAST", "[I") ∈ zn_F := by decide +kernel
theorem zm_l_X2_24 : Cond.methodLink RX2 24 yX4_cut ∈ zt_G := zt_m 345 (by decide +kernel) (by decide +kernel)
theorem zm_f_X2_30 : Cond.fieldLink RX2 30 "VoiceFrames$Filter" "C" "[I" ∈ zt_G := zt_m 346 (by decide +kernel) (by decide +kernel)
theorem zm_n_X2_33 : (RX2, 33, "VoiceFrames", "B", "[I") ∈ zn_F := by decide +kernel
theorem zm_l_X2_36 : Cond.methodLink RX2 36 yX4_rounded ∈ zt_G := zt_m 350 (by decide +kernel) (by decide +kernel)
theorem zm_c_X2_learn : Cond.code yX2_learn cX2_learn 4 none ∈ zt_G := zt_m 342 (by decide +kernel) (by decide +kernel)
theorem zm_i_X2_learn : Cond.instanceMethod yX2_learn ∈ zt_G := zt_m 340 (by decide +kernel) (by decide +kernel)
theorem zm_e_X2_learn : Cond.selects RX2 yX2_learn yX2_learn ∈ zt_G := zt_m 341 (by decide +kernel) (by decide +kernel)
theorem zm_0_X2 : Cond.initialized RX2 ∈ zt_G := zt_m 5 (by decide +kernel) (by decide +kernel)
theorem zm_d_X2_learn : yX2_learn.cls ≠ "java/lang/invoke/MethodHandle" ∧ yX2_learn.cls ≠ "java/lang/invoke/VarHandle" ∧ (parseMethodDescriptor yX2_learn.desc).map (fun d => d.parameters.length) = some 1 := by decide +kernel
theorem zm_l_X1_74 : Cond.methodLink RX1 74 yX2_learn ∈ zt_G := zt_m 575 (by decide +kernel) (by decide +kernel)
theorem zm_n_X1_103 : (RX1, 103, "VoiceFrames$Filter", "ENDS", "[I") ∈ zn_F := by decide +kernel
theorem zm_f_X2_18 : Cond.fieldLink RX2 18 "VoiceFrames$Filter" "\x72" "[I" ∈ zt_G := zt_m 82 (by decide +kernel) (by decide +kernel)
theorem zm_c_X2_between : Cond.code yX2_between cX2_between 4 (some .int) ∈ zt_G := zt_m 363 (by decide +kernel) (by decide +kernel)
theorem zm_s_X2_between : Cond.static yX2_between ∈ zt_G := zt_m 362 (by decide +kernel) (by decide +kernel)
theorem zm_d_X2_between : yX2_between.cls ≠ "java/lang/invoke/MethodHandle" ∧ yX2_between.cls ≠ "java/lang/invoke/VarHandle" ∧ (parseMethodDescriptor yX2_between.desc).map (fun d => d.parameters.length) = some 3 := by decide +kernel
theorem zm_l_X2_40 : Cond.methodLink RX2 40 yX2_between ∈ zt_G := zt_m 361 (by decide +kernel) (by decide +kernel)
theorem zm_l_X2_53 : Cond.methodLink RX2 53 yX4_size ∈ zt_G := zt_m 367 (by decide +kernel) (by decide +kernel)
theorem zm_l_X2_56 : Cond.methodLink RX2 56 yX4_withSignOf ∈ zt_G := zt_m 370 (by decide +kernel) (by decide +kernel)
theorem zm_c_X2_straight : Cond.code yX2_straight cX2_straight 3 (some .int) ∈ zt_G := zt_m 366 (by decide +kernel) (by decide +kernel)
theorem zm_s_X2_straight : Cond.static yX2_straight ∈ zt_G := zt_m 365 (by decide +kernel) (by decide +kernel)
theorem zm_d_X2_straight : yX2_straight.cls ≠ "java/lang/invoke/MethodHandle" ∧ yX2_straight.cls ≠ "java/lang/invoke/VarHandle" ∧ (parseMethodDescriptor yX2_straight.desc).map (fun d => d.parameters.length) = some 1 := by decide +kernel
theorem zm_l_X2_44 : Cond.methodLink RX2 44 yX2_straight ∈ zt_G := zt_m 364 (by decide +kernel) (by decide +kernel)
theorem zm_c_X2_shape : Cond.code yX2_shape cX2_shape 3 none ∈ zt_G := zt_m 360 (by decide +kernel) (by decide +kernel)
theorem zm_i_X2_shape : Cond.instanceMethod yX2_shape ∈ zt_G := zt_m 358 (by decide +kernel) (by decide +kernel)
theorem zm_e_X2_shape : Cond.selects RX2 yX2_shape yX2_shape ∈ zt_G := zt_m 359 (by decide +kernel) (by decide +kernel)
theorem zm_d_X2_shape : yX2_shape.cls ≠ "java/lang/invoke/MethodHandle" ∧ yX2_shape.cls ≠ "java/lang/invoke/VarHandle" ∧ (parseMethodDescriptor yX2_shape.desc).map (fun d => d.parameters.length) = some 1 := by decide +kernel
theorem zm_l_X1_106 : Cond.methodLink RX1 106 yX2_shape ∈ zt_G := zt_m 581 (by decide +kernel) (by decide +kernel)
theorem zm_n_X1_114 : (RX1, 114, "VoiceFrames$Filter", "\x72", "[I") ∈ zn_F := by decide +kernel
theorem zm_f_X1_64 : Cond.fieldLink RX1 64 "VoiceFrames$Encoder" "u" "[I" ∈ zt_G := zt_m 178 (by decide +kernel) (by decide +kernel)
theorem zm_l_X1_117 : Cond.methodLink RX1 117 yX4_rounded ∈ zt_G := zt_m 586 (by decide +kernel) (by decide +kernel)
theorem zm_l_X1_123 : Cond.methodLink RX1 123 yX4_cut ∈ zt_G := zt_m 587 (by decide +kernel) (by decide +kernel)
theorem zm_c_X1_left : Cond.code yX1_left cX1_left 7 (some .int) ∈ zt_G := zt_m 585 (by decide +kernel) (by decide +kernel)
theorem zm_i_X1_left : Cond.instanceMethod yX1_left ∈ zt_G := zt_m 584 (by decide +kernel) (by decide +kernel)
theorem zm_e_X1_left : Cond.selects RX1 yX1_left yX1_left ∈ zt_G := zt_s 13 (by decide +kernel) (by decide +kernel)
theorem zm_0_X1 : Cond.initialized RX1 ∈ zt_G := zt_m 2 (by decide +kernel) (by decide +kernel)
theorem zm_d_X1_left : yX1_left.cls ≠ "java/lang/invoke/MethodHandle" ∧ yX1_left.cls ≠ "java/lang/invoke/VarHandle" ∧ (parseMethodDescriptor yX1_left.desc).map (fun d => d.parameters.length) = some 1 := by decide +kernel
theorem zm_l_X1_110 : Cond.methodLink RX1 110 yX1_left ∈ zt_G := zt_m 582 (by decide +kernel) (by decide +kernel)
theorem zm_c_X1_takeAway : Cond.code yX1_takeAway cX1_takeAway 3 none ∈ zt_G := zt_m 579 (by decide +kernel) (by decide +kernel)
theorem zm_i_X1_takeAway : Cond.instanceMethod yX1_takeAway ∈ zt_G := zt_m 578 (by decide +kernel) (by decide +kernel)
theorem zm_e_X1_takeAway : Cond.selects RX1 yX1_takeAway yX1_takeAway ∈ zt_G := zt_s 12 (by decide +kernel) (by decide +kernel)
theorem zm_d_X1_takeAway : yX1_takeAway.cls ≠ "java/lang/invoke/MethodHandle" ∧ yX1_takeAway.cls ≠ "java/lang/invoke/VarHandle" ∧ (parseMethodDescriptor yX1_takeAway.desc).map (fun d => d.parameters.length) = some 0 := by decide +kernel
theorem zm_l_X1_78 : Cond.methodLink RX1 78 yX1_takeAway ∈ zt_G := zt_m 576 (by decide +kernel) (by decide +kernel)
theorem zm_f_X1_42 : Cond.fieldLink RX1 42 "VoiceFrames$Encoder" "search" "LVoiceFrames$Search;" ∈ zt_G := zt_m 174 (by decide +kernel) (by decide +kernel)
theorem zm_f_X1_35 : Cond.fieldLink RX1 35 "VoiceFrames$Encoder" "past" "LVoiceFrames$Past;" ∈ zt_G := zt_m 172 (by decide +kernel) (by decide +kernel)
theorem zm_c_X5_from : Cond.code yX5_from cX5_from 1 (some .int) ∈ zt_G := zt_m 332 (by decide +kernel) (by decide +kernel)
theorem zm_s_X5_from : Cond.static yX5_from ∈ zt_G := zt_m 331 (by decide +kernel) (by decide +kernel)
theorem zm_0_X5 : Cond.initialized RX5 ∈ zt_G := zt_m 6 (by decide +kernel) (by decide +kernel)
theorem zm_d_X5_from : yX5_from.cls ≠ "java/lang/invoke/MethodHandle" ∧ yX5_from.cls ≠ "java/lang/invoke/VarHandle" ∧ (parseMethodDescriptor yX5_from.desc).map (fun d => d.parameters.length) = some 1 := by decide +kernel
theorem zm_l_X8_15 : Cond.methodLink RX8 15 yX5_from ∈ zt_G := zt_m 596 (by decide +kernel) (by decide +kernel)
theorem zm_l_X8_45 : Cond.methodLink RX8 45 yX4_greatestSize ∈ zt_G := zt_m 601 (by decide +kernel) (by decide +kernel)
theorem zm_l_X8_51 : Cond.methodLink RX8 51 yX4_norm ∈ zt_G := zt_m 602 (by decide +kernel) (by decide +kernel)
theorem zm_f_X8_9 : Cond.fieldLink RX8 9 "VoiceFrames$Search" "low" "[I" ∈ zt_G := zt_m 115 (by decide +kernel) (by decide +kernel)
theorem zm_w_X8 : ∀ w ∈ wsX80, w ∈ zt_G := by decide +kernel
theorem zm_c_X8_lower : Cond.code yX8_lower cX8_lower 7 (some .int) ∈ zt_G := zt_m 600 (by decide +kernel) (by decide +kernel)
theorem zm_i_X8_lower : Cond.instanceMethod yX8_lower ∈ zt_G := zt_m 599 (by decide +kernel) (by decide +kernel)
theorem zm_e_X8_lower : Cond.selects RX8 yX8_lower yX8_lower ∈ zt_G := zt_s 15 (by decide +kernel) (by decide +kernel)
theorem zm_0_X8 : Cond.initialized RX8 ∈ zt_G := zt_m 7 (by decide +kernel) (by decide +kernel)
theorem zm_d_X8_lower : yX8_lower.cls ≠ "java/lang/invoke/MethodHandle" ∧ yX8_lower.cls ≠ "java/lang/invoke/VarHandle" ∧ (parseMethodDescriptor yX8_lower.desc).map (fun d => d.parameters.length) = some 2 := by decide +kernel
theorem zm_l_X8_21 : Cond.methodLink RX8 21 yX8_lower ∈ zt_G := zt_m 597 (by decide +kernel) (by decide +kernel)
theorem zm_f_X8_25 : Cond.fieldLink RX8 25 "VoiceFrames$Search" "back" "I" ∈ zt_G := zt_m 116 (by decide +kernel) (by decide +kernel)
theorem zm_n_X8_29 : (RX8, 29, "VoiceFrames$Past", "cells", "[I") ∈ zn_F := by decide +kernel
theorem zm_w_X5 : ∀ w ∈ wsX50, w ∈ zt_G := by decide +kernel
theorem zm_c_X8_likeness : Cond.code yX8_likeness cX8_likeness 5 (some .int) ∈ zt_G := zt_m 606 (by decide +kernel) (by decide +kernel)
theorem zm_i_X8_likeness : Cond.instanceMethod yX8_likeness ∈ zt_G := zt_m 605 (by decide +kernel) (by decide +kernel)
theorem zm_e_X8_likeness : Cond.selects RX8 yX8_likeness yX8_likeness ∈ zt_G := zt_s 16 (by decide +kernel) (by decide +kernel)
theorem zm_d_X8_likeness : yX8_likeness.cls ≠ "java/lang/invoke/MethodHandle" ∧ yX8_likeness.cls ≠ "java/lang/invoke/VarHandle" ∧ (parseMethodDescriptor yX8_likeness.desc).map (fun d => d.parameters.length) = some 2 := by decide +kernel
theorem zm_l_X8_32 : Cond.methodLink RX8 32 yX8_likeness ∈ zt_G := zt_m 603 (by decide +kernel) (by decide +kernel)
theorem zm_c_X8_power : Cond.code yX8_power cX8_power 5 (some .int) ∈ zt_G := zt_m 609 (by decide +kernel) (by decide +kernel)
theorem zm_s_X8_power : Cond.static yX8_power ∈ zt_G := zt_m 608 (by decide +kernel) (by decide +kernel)
theorem zm_d_X8_power : yX8_power.cls ≠ "java/lang/invoke/MethodHandle" ∧ yX8_power.cls ≠ "java/lang/invoke/VarHandle" ∧ (parseMethodDescriptor yX8_power.desc).map (fun d => d.parameters.length) = some 2 := by decide +kernel
theorem zm_l_X8_35 : Cond.methodLink RX8 35 yX8_power ∈ zt_G := zt_m 607 (by decide +kernel) (by decide +kernel)
theorem zm_f_X8_54 : Cond.fieldLink RX8 54 "VoiceFrames$Search" "D" "[I" ∈ zt_G := zt_m 613 (by decide +kernel) (by decide +kernel)
theorem zm_l_X8_57 : Cond.methodLink RX8 57 yX4_floored ∈ zt_G := zt_m 615 (by decide +kernel) (by decide +kernel)
theorem zm_c_X8_gainOf : Cond.code yX8_gainOf cX8_gainOf 6 (some .int) ∈ zt_G := zt_m 612 (by decide +kernel) (by decide +kernel)
theorem zm_s_X8_gainOf : Cond.static yX8_gainOf ∈ zt_G := zt_m 611 (by decide +kernel) (by decide +kernel)
theorem zm_d_X8_gainOf : yX8_gainOf.cls ≠ "java/lang/invoke/MethodHandle" ∧ yX8_gainOf.cls ≠ "java/lang/invoke/VarHandle" ∧ (parseMethodDescriptor yX8_gainOf.desc).map (fun d => d.parameters.length) = some 2 := by decide +kernel
theorem zm_l_X8_38 : Cond.methodLink RX8 38 yX8_gainOf ∈ zt_G := zt_m 610 (by decide +kernel) (by decide +kernel)
theorem zm_f_X8_42 : Cond.fieldLink RX8 42 "VoiceFrames$Search" "gain" "I" ∈ zt_G := zt_m 118 (by decide +kernel) (by decide +kernel)
theorem zm_c_X8_find : Cond.code yX8_find cX8_find 9 none ∈ zt_G := zt_m 595 (by decide +kernel) (by decide +kernel)
theorem zm_i_X8_find : Cond.instanceMethod yX8_find ∈ zt_G := zt_m 593 (by decide +kernel) (by decide +kernel)
theorem zm_e_X8_find : Cond.selects RX8 yX8_find yX8_find ∈ zt_G := zt_m 594 (by decide +kernel) (by decide +kernel)
theorem zm_d_X8_find : yX8_find.cls ≠ "java/lang/invoke/MethodHandle" ∧ yX8_find.cls ≠ "java/lang/invoke/VarHandle" ∧ (parseMethodDescriptor yX8_find.desc).map (fun d => d.parameters.length) = some 3 := by decide +kernel
theorem zm_l_X1_126 : Cond.methodLink RX1 126 yX8_find ∈ zt_G := zt_m 592 (by decide +kernel) (by decide +kernel)
theorem zm_n_X1_130 : (RX1, 130, "VoiceFrames$Search", "back", "I") ∈ zn_F := by decide +kernel
theorem zm_n_X1_133 : (RX1, 133, "VoiceFrames$Search", "gain", "I") ∈ zn_F := by decide +kernel
theorem zm_f_X5_15 : Cond.fieldLink RX5 15 "VoiceFrames$Past" "w" "[I" ∈ zt_G := zt_m 102 (by decide +kernel) (by decide +kernel)
theorem zm_f_X5_18 : Cond.fieldLink RX5 18 "VoiceFrames$Past" "G" "[I" ∈ zt_G := zt_m 328 (by decide +kernel) (by decide +kernel)
theorem zm_f_X5_9 : Cond.fieldLink RX5 9 "VoiceFrames$Past" "cells" "[I" ∈ zt_G := zt_m 98 (by decide +kernel) (by decide +kernel)
theorem zm_l_X5_21 : Cond.methodLink RX5 21 yX5_from ∈ zt_G := zt_m 330 (by decide +kernel) (by decide +kernel)
theorem zm_l_X5_25 : Cond.methodLink RX5 25 yX4_rounded ∈ zt_G := zt_m 333 (by decide +kernel) (by decide +kernel)
theorem zm_c_X5_look : Cond.code yX5_look cX5_look 5 none ∈ zt_G := zt_m 327 (by decide +kernel) (by decide +kernel)
theorem zm_i_X5_look : Cond.instanceMethod yX5_look ∈ zt_G := zt_m 325 (by decide +kernel) (by decide +kernel)
theorem zm_e_X5_look : Cond.selects RX5 yX5_look yX5_look ∈ zt_G := zt_m 326 (by decide +kernel) (by decide +kernel)
theorem zm_d_X5_look : yX5_look.cls ≠ "java/lang/invoke/MethodHandle" ∧ yX5_look.cls ≠ "java/lang/invoke/VarHandle" ∧ (parseMethodDescriptor yX5_look.desc).map (fun d => d.parameters.length) = some 3 := by decide +kernel
theorem zm_l_X1_136 : Cond.methodLink RX1 136 yX5_look ∈ zt_G := zt_m 616 (by decide +kernel) (by decide +kernel)
theorem zm_f_X1_49 : Cond.fieldLink RX1 49 "VoiceFrames$Encoder" "thinning" "LVoiceFrames$Thinning;" ∈ zt_G := zt_m 175 (by decide +kernel) (by decide +kernel)
theorem zm_n_X1_140 : (RX1, 140, "VoiceFrames$Past", "w", "[I") ∈ zn_F := by decide +kernel
theorem zm_f_X9_11 : Cond.fieldLink RX9 11 "VoiceFrames$Thinning" "e" "[I" ∈ zt_G := zt_m 133 (by decide +kernel) (by decide +kernel)
theorem zm_w_X9 : ∀ w ∈ wsX90, w ∈ zt_G := by decide +kernel
theorem zm_l_X9_18 : Cond.methodLink RX9 18 yX4_cut ∈ zt_G := zt_m 621 (by decide +kernel) (by decide +kernel)
theorem zm_f_X9_15 : Cond.fieldLink RX9 15 "VoiceFrames$Thinning" "x" "[I" ∈ zt_G := zt_m 134 (by decide +kernel) (by decide +kernel)
theorem zm_f_X9_45 : Cond.fieldLink RX9 45 "VoiceFrames$Thinning" "H" "[I" ∈ zt_G := zt_m 626 (by decide +kernel) (by decide +kernel)
theorem zm_c_X9_filtered : Cond.code yX9_filtered cX9_filtered 4 (some .int) ∈ zt_G := zt_m 625 (by decide +kernel) (by decide +kernel)
theorem zm_i_X9_filtered : Cond.instanceMethod yX9_filtered ∈ zt_G := zt_m 624 (by decide +kernel) (by decide +kernel)
theorem zm_e_X9_filtered : Cond.selects RX9 yX9_filtered yX9_filtered ∈ zt_G := zt_s 17 (by decide +kernel) (by decide +kernel)
theorem zm_0_X9 : Cond.initialized RX9 ∈ zt_G := zt_m 8 (by decide +kernel) (by decide +kernel)
theorem zm_d_X9_filtered : yX9_filtered.cls ≠ "java/lang/invoke/MethodHandle" ∧ yX9_filtered.cls ≠ "java/lang/invoke/VarHandle" ∧ (parseMethodDescriptor yX9_filtered.desc).map (fun d => d.parameters.length) = some 1 := by decide +kernel
theorem zm_l_X9_24 : Cond.methodLink RX9 24 yX9_filtered ∈ zt_G := zt_m 622 (by decide +kernel) (by decide +kernel)
theorem zm_c_X9_loudestGrid : Cond.code yX9_loudestGrid cX9_loudestGrid 7 (some .int) ∈ zt_G := zt_m 631 (by decide +kernel) (by decide +kernel)
theorem zm_i_X9_loudestGrid : Cond.instanceMethod yX9_loudestGrid ∈ zt_G := zt_m 630 (by decide +kernel) (by decide +kernel)
theorem zm_e_X9_loudestGrid : Cond.selects RX9 yX9_loudestGrid yX9_loudestGrid ∈ zt_G := zt_s 18 (by decide +kernel) (by decide +kernel)
theorem zm_d_X9_loudestGrid : yX9_loudestGrid.cls ≠ "java/lang/invoke/MethodHandle" ∧ yX9_loudestGrid.cls ≠ "java/lang/invoke/VarHandle" ∧ (parseMethodDescriptor yX9_loudestGrid.desc).map (fun d => d.parameters.length) = some 0 := by decide +kernel
theorem zm_l_X9_27 : Cond.methodLink RX9 27 yX9_loudestGrid ∈ zt_G := zt_m 628 (by decide +kernel) (by decide +kernel)
theorem zm_f_X9_31 : Cond.fieldLink RX9 31 "VoiceFrames$Thinning" "grid" "I" ∈ zt_G := zt_m 136 (by decide +kernel) (by decide +kernel)
theorem zm_l_X9_35 : Cond.methodLink RX9 35 yX4_greatestSize ∈ zt_G := zt_m 632 (by decide +kernel) (by decide +kernel)
theorem zm_c_X9_heightOf : Cond.code yX9_heightOf cX9_heightOf 3 (some .int) ∈ zt_G := zt_m 635 (by decide +kernel) (by decide +kernel)
theorem zm_s_X9_heightOf : Cond.static yX9_heightOf ∈ zt_G := zt_m 634 (by decide +kernel) (by decide +kernel)
theorem zm_d_X9_heightOf : yX9_heightOf.cls ≠ "java/lang/invoke/MethodHandle" ∧ yX9_heightOf.cls ≠ "java/lang/invoke/VarHandle" ∧ (parseMethodDescriptor yX9_heightOf.desc).map (fun d => d.parameters.length) = some 1 := by decide +kernel
theorem zm_l_X9_39 : Cond.methodLink RX9 39 yX9_heightOf ∈ zt_G := zt_m 633 (by decide +kernel) (by decide +kernel)
theorem zm_f_X9_42 : Cond.fieldLink RX9 42 "VoiceFrames$Thinning" "height" "I" ∈ zt_G := zt_m 138 (by decide +kernel) (by decide +kernel)
theorem zm_c_X9_thin : Cond.code yX9_thin cX9_thin 5 none ∈ zt_G := zt_m 620 (by decide +kernel) (by decide +kernel)
theorem zm_i_X9_thin : Cond.instanceMethod yX9_thin ∈ zt_G := zt_m 618 (by decide +kernel) (by decide +kernel)
theorem zm_e_X9_thin : Cond.selects RX9 yX9_thin yX9_thin ∈ zt_G := zt_m 619 (by decide +kernel) (by decide +kernel)
theorem zm_d_X9_thin : yX9_thin.cls ≠ "java/lang/invoke/MethodHandle" ∧ yX9_thin.cls ≠ "java/lang/invoke/VarHandle" ∧ (parseMethodDescriptor yX9_thin.desc).map (fun d => d.parameters.length) = some 3 := by decide +kernel
theorem zm_l_X1_143 : Cond.methodLink RX1 143 yX9_thin ∈ zt_G := zt_m 617 (by decide +kernel) (by decide +kernel)
theorem zm_n_X1_147 : (RX1, 147, "VoiceFrames$Thinning", "grid", "I") ∈ zn_F := by decide +kernel
theorem zm_n_X1_150 : (RX1, 150, "VoiceFrames$Thinning", "height", "I") ∈ zn_F := by decide +kernel
theorem zm_f_X1_56 : Cond.fieldLink RX1 56 "VoiceFrames$Encoder" "pulses" "LVoiceFrames$Pulses;" ∈ zt_G := zt_m 176 (by decide +kernel) (by decide +kernel)
theorem zm_f_X7_15 : Cond.fieldLink RX7 15 "VoiceFrames$Pulses" "shift" "I" ∈ zt_G := zt_m 158 (by decide +kernel) (by decide +kernel)
theorem zm_w_X7 : ∀ w ∈ wsX70, w ∈ zt_G := by decide +kernel
theorem zm_f_X7_19 : Cond.fieldLink RX7 19 "VoiceFrames$Pulses" "step" "I" ∈ zt_G := zt_m 159 (by decide +kernel) (by decide +kernel)
theorem zm_c_X7_scaleBy : Cond.code yX7_scaleBy cX7_scaleBy 5 none ∈ zt_G := zt_m 309 (by decide +kernel) (by decide +kernel)
theorem zm_i_X7_scaleBy : Cond.instanceMethod yX7_scaleBy ∈ zt_G := zt_m 307 (by decide +kernel) (by decide +kernel)
theorem zm_e_X7_scaleBy : Cond.selects RX7 yX7_scaleBy yX7_scaleBy ∈ zt_G := zt_m 308 (by decide +kernel) (by decide +kernel)
theorem zm_0_X7 : Cond.initialized RX7 ∈ zt_G := zt_m 9 (by decide +kernel) (by decide +kernel)
theorem zm_d_X7_scaleBy : yX7_scaleBy.cls ≠ "java/lang/invoke/MethodHandle" ∧ yX7_scaleBy.cls ≠ "java/lang/invoke/VarHandle" ∧ (parseMethodDescriptor yX7_scaleBy.desc).map (fun d => d.parameters.length) = some 1 := by decide +kernel
theorem zm_l_X1_153 : Cond.methodLink RX1 153 yX7_scaleBy ∈ zt_G := zt_m 636 (by decide +kernel) (by decide +kernel)
theorem zm_n_X1_156 : (RX1, 156, "VoiceFrames$Thinning", "x", "[I") ∈ zn_F := by decide +kernel
theorem zm_f_X7_22 : Cond.fieldLink RX7 22 "VoiceFrames$Pulses" "R" "[I" ∈ zt_G := zt_m 641 (by decide +kernel) (by decide +kernel)
theorem zm_l_X7_25 : Cond.methodLink RX7 25 yX4_floored ∈ zt_G := zt_m 643 (by decide +kernel) (by decide +kernel)
theorem zm_c_X7_told : Cond.code yX7_told cX7_told 2 (some .int) ∈ zt_G := zt_m 640 (by decide +kernel) (by decide +kernel)
theorem zm_i_X7_told : Cond.instanceMethod yX7_told ∈ zt_G := zt_m 638 (by decide +kernel) (by decide +kernel)
theorem zm_e_X7_told : Cond.selects RX7 yX7_told yX7_told ∈ zt_G := zt_m 639 (by decide +kernel) (by decide +kernel)
theorem zm_d_X7_told : yX7_told.cls ≠ "java/lang/invoke/MethodHandle" ∧ yX7_told.cls ≠ "java/lang/invoke/VarHandle" ∧ (parseMethodDescriptor yX7_told.desc).map (fun d => d.parameters.length) = some 1 := by decide +kernel
theorem zm_l_X1_157 : Cond.methodLink RX1 157 yX7_told ∈ zt_G := zt_m 637 (by decide +kernel) (by decide +kernel)
theorem zm_l_X7_31 : Cond.methodLink RX7 31 yX7_scaleBy ∈ zt_G := zt_m 306 (by decide +kernel) (by decide +kernel)
theorem zm_f_X7_9 : Cond.fieldLink RX7 9 "VoiceFrames$Pulses" "row" "[I" ∈ zt_G := zt_m 155 (by decide +kernel) (by decide +kernel)
theorem zm_l_X7_35 : Cond.methodLink RX7 35 yJ7_fill_53178 ∈ zt_G := zt_m 310 (by decide +kernel) (by decide +kernel)
theorem zm_f_X7_45 : Cond.fieldLink RX7 45 "VoiceFrames$Pulses" "F" "[I" ∈ zt_G := zt_m 315 (by decide +kernel) (by decide +kernel)
theorem zm_l_X7_48 : Cond.methodLink RX7 48 yX4_rounded ∈ zt_G := zt_m 317 (by decide +kernel) (by decide +kernel)
theorem zm_l_X7_51 : Cond.methodLink RX7 51 yX4_cut ∈ zt_G := zt_m 323 (by decide +kernel) (by decide +kernel)
theorem zm_c_X7_made : Cond.code yX7_made cX7_made 4 (some .int) ∈ zt_G := zt_m 314 (by decide +kernel) (by decide +kernel)
theorem zm_i_X7_made : Cond.instanceMethod yX7_made ∈ zt_G := zt_m 313 (by decide +kernel) (by decide +kernel)
theorem zm_e_X7_made : Cond.selects RX7 yX7_made yX7_made ∈ zt_G := zt_s 3 (by decide +kernel) (by decide +kernel)
theorem zm_d_X7_made : yX7_made.cls ≠ "java/lang/invoke/MethodHandle" ∧ yX7_made.cls ≠ "java/lang/invoke/VarHandle" ∧ (parseMethodDescriptor yX7_made.desc).map (fun d => d.parameters.length) = some 1 := by decide +kernel
theorem zm_l_X7_41 : Cond.methodLink RX7 41 yX7_made ∈ zt_G := zt_m 311 (by decide +kernel) (by decide +kernel)
theorem zm_c_X7_makeAgain : Cond.code yX7_makeAgain cX7_makeAgain 5 none ∈ zt_G := zt_m 305 (by decide +kernel) (by decide +kernel)
theorem zm_i_X7_makeAgain : Cond.instanceMethod yX7_makeAgain ∈ zt_G := zt_m 303 (by decide +kernel) (by decide +kernel)
theorem zm_e_X7_makeAgain : Cond.selects RX7 yX7_makeAgain yX7_makeAgain ∈ zt_G := zt_m 304 (by decide +kernel) (by decide +kernel)
theorem zm_d_X7_makeAgain : yX7_makeAgain.cls ≠ "java/lang/invoke/MethodHandle" ∧ yX7_makeAgain.cls ≠ "java/lang/invoke/VarHandle" ∧ (parseMethodDescriptor yX7_makeAgain.desc).map (fun d => d.parameters.length) = some 2 := by decide +kernel
theorem zm_l_X1_160 : Cond.methodLink RX1 160 yX7_makeAgain ∈ zt_G := zt_m 644 (by decide +kernel) (by decide +kernel)
theorem zm_n_X1_163 : (RX1, 163, "VoiceFrames$Pulses", "row", "[I") ∈ zn_F := by decide +kernel
theorem zm_l_X5_31 : Cond.methodLink RX5 31 yX4_cut ∈ zt_G := zt_m 338 (by decide +kernel) (by decide +kernel)
theorem zm_c_X5_add : Cond.code yX5_add cX5_add 4 none ∈ zt_G := zt_m 337 (by decide +kernel) (by decide +kernel)
theorem zm_i_X5_add : Cond.instanceMethod yX5_add ∈ zt_G := zt_m 335 (by decide +kernel) (by decide +kernel)
theorem zm_e_X5_add : Cond.selects RX5 yX5_add yX5_add ∈ zt_G := zt_m 336 (by decide +kernel) (by decide +kernel)
theorem zm_d_X5_add : yX5_add.cls ≠ "java/lang/invoke/MethodHandle" ∧ yX5_add.cls ≠ "java/lang/invoke/VarHandle" ∧ (parseMethodDescriptor yX5_add.desc).map (fun d => d.parameters.length) = some 2 := by decide +kernel
theorem zm_l_X1_166 : Cond.methodLink RX1 166 yX5_add ∈ zt_G := zt_m 645 (by decide +kernel) (by decide +kernel)
theorem zm_c_X1_describePart : Cond.code yX1_describePart cX1_describePart 5 none ∈ zt_G := zt_m 591 (by decide +kernel) (by decide +kernel)
theorem zm_i_X1_describePart : Cond.instanceMethod yX1_describePart ∈ zt_G := zt_m 590 (by decide +kernel) (by decide +kernel)
theorem zm_e_X1_describePart : Cond.selects RX1 yX1_describePart yX1_describePart ∈ zt_G := zt_s 14 (by decide +kernel) (by decide +kernel)
theorem zm_d_X1_describePart : yX1_describePart.cls ≠ "java/lang/invoke/MethodHandle" ∧ yX1_describePart.cls ≠ "java/lang/invoke/VarHandle" ∧ (parseMethodDescriptor yX1_describePart.desc).map (fun d => d.parameters.length) = some 2 := by decide +kernel
theorem zm_l_X1_81 : Cond.methodLink RX1 81 yX1_describePart ∈ zt_G := zt_m 588 (by decide +kernel) (by decide +kernel)
theorem zm_l_X5_34 : Cond.methodLink RX5 34 arraycopyName ∈ zt_G := zt_m 384 (by decide +kernel) (by decide +kernel)
theorem zm_ac_n : Cond.native arraycopyName ∈ zt_G := zt_m 386 (by decide +kernel) (by decide +kernel)
theorem zm_ac_s : Cond.static arraycopyName ∈ zt_G := zt_m 385 (by decide +kernel) (by decide +kernel)
theorem zm_ac_i : Cond.initialized "java/lang/System" ∈ zt_G := zt_m 19 (by decide +kernel) (by decide +kernel)
theorem zm_c_X5_endFrame : Cond.code yX5_endFrame cX5_endFrame 1 none ∈ zt_G := zt_m 383 (by decide +kernel) (by decide +kernel)
theorem zm_i_X5_endFrame : Cond.instanceMethod yX5_endFrame ∈ zt_G := zt_m 381 (by decide +kernel) (by decide +kernel)
theorem zm_e_X5_endFrame : Cond.selects RX5 yX5_endFrame yX5_endFrame ∈ zt_G := zt_m 382 (by decide +kernel) (by decide +kernel)
theorem zm_d_X5_endFrame : yX5_endFrame.cls ≠ "java/lang/invoke/MethodHandle" ∧ yX5_endFrame.cls ≠ "java/lang/invoke/VarHandle" ∧ (parseMethodDescriptor yX5_endFrame.desc).map (fun d => d.parameters.length) = some 0 := by decide +kernel
theorem zm_l_X1_85 : Cond.methodLink RX1 85 yX5_endFrame ∈ zt_G := zt_m 646 (by decide +kernel) (by decide +kernel)
theorem zm_f_X1_88 : Cond.fieldLink RX1 88 "VoiceFrames$Encoder" "frames" "I" ∈ zt_G := zt_m 180 (by decide +kernel) (by decide +kernel)
theorem zm_c_X3_forget : Cond.code yX3_forget cX3_forget 1 none ∈ zt_G := zt_m 687 (by decide +kernel) (by decide +kernel)
theorem zm_i_X3_forget : Cond.instanceMethod yX3_forget ∈ zt_G := zt_m 685 (by decide +kernel) (by decide +kernel)
theorem zm_e_X3_forget : Cond.selects RX3 yX3_forget yX3_forget ∈ zt_G := zt_m 686 (by decide +kernel) (by decide +kernel)
theorem zm_d_X3_forget : yX3_forget.cls ≠ "java/lang/invoke/MethodHandle" ∧ yX3_forget.cls ≠ "java/lang/invoke/VarHandle" ∧ (parseMethodDescriptor yX3_forget.desc).map (fun d => d.parameters.length) = some 0 := by decide +kernel
theorem zm_l_X1_92 : Cond.methodLink RX1 92 yX3_forget ∈ zt_G := zt_m 684 (by decide +kernel) (by decide +kernel)
theorem zm_l_X2_47 : Cond.methodLink RX2 47 yJ7_fill_53178 ∈ zt_G := zt_m 692 (by decide +kernel) (by decide +kernel)
theorem zm_c_X2_forget : Cond.code yX2_forget cX2_forget 1 none ∈ zt_G := zt_m 691 (by decide +kernel) (by decide +kernel)
theorem zm_i_X2_forget : Cond.instanceMethod yX2_forget ∈ zt_G := zt_m 689 (by decide +kernel) (by decide +kernel)
theorem zm_e_X2_forget : Cond.selects RX2 yX2_forget yX2_forget ∈ zt_G := zt_m 690 (by decide +kernel) (by decide +kernel)
theorem zm_d_X2_forget : yX2_forget.cls ≠ "java/lang/invoke/MethodHandle" ∧ yX2_forget.cls ≠ "java/lang/invoke/VarHandle" ∧ (parseMethodDescriptor yX2_forget.desc).map (fun d => d.parameters.length) = some 0 := by decide +kernel
theorem zm_l_X1_95 : Cond.methodLink RX1 95 yX2_forget ∈ zt_G := zt_m 688 (by decide +kernel) (by decide +kernel)
theorem zm_l_X5_40 : Cond.methodLink RX5 40 yJ7_fill_53178 ∈ zt_G := zt_m 697 (by decide +kernel) (by decide +kernel)
theorem zm_c_X5_forget : Cond.code yX5_forget cX5_forget 1 none ∈ zt_G := zt_m 696 (by decide +kernel) (by decide +kernel)
theorem zm_i_X5_forget : Cond.instanceMethod yX5_forget ∈ zt_G := zt_m 694 (by decide +kernel) (by decide +kernel)
theorem zm_e_X5_forget : Cond.selects RX5 yX5_forget yX5_forget ∈ zt_G := zt_m 695 (by decide +kernel) (by decide +kernel)
theorem zm_d_X5_forget : yX5_forget.cls ≠ "java/lang/invoke/MethodHandle" ∧ yX5_forget.cls ≠ "java/lang/invoke/VarHandle" ∧ (parseMethodDescriptor yX5_forget.desc).map (fun d => d.parameters.length) = some 0 := by decide +kernel
theorem zm_l_X1_96 : Cond.methodLink RX1 96 yX5_forget ∈ zt_G := zt_m 693 (by decide +kernel) (by decide +kernel)
theorem zm_l_X1_97 : Cond.methodLink RX1 97 yJ7_fill_53178 ∈ zt_G := zt_m 698 (by decide +kernel) (by decide +kernel)
theorem zm_f_X0_28 : Cond.fieldLink RX0 28 "VoiceFrames$Decoder" "pulses" "LVoiceFrames$Pulses;" ∈ zt_G := zt_m 219 (by decide +kernel) (by decide +kernel)
theorem zm_w_X0 : ∀ w ∈ wsX00, w ∈ zt_G := by decide +kernel
theorem zm_l_X0_70 : Cond.methodLink RX0 70 yX7_makeAgain ∈ zt_G := zt_m 302 (by decide +kernel) (by decide +kernel)
theorem zm_f_X0_21 : Cond.fieldLink RX0 21 "VoiceFrames$Decoder" "past" "LVoiceFrames$Past;" ∈ zt_G := zt_m 217 (by decide +kernel) (by decide +kernel)
theorem zm_f_X0_36 : Cond.fieldLink RX0 36 "VoiceFrames$Decoder" "back" "I" ∈ zt_G := zt_m 222 (by decide +kernel) (by decide +kernel)
theorem zm_l_X0_73 : Cond.methodLink RX0 73 yX5_look ∈ zt_G := zt_m 324 (by decide +kernel) (by decide +kernel)
theorem zm_n_X0_77 : (RX0, 77, "VoiceFrames$Pulses", "row", "[I") ∈ zn_F := by decide +kernel
theorem zm_l_X0_80 : Cond.methodLink RX0 80 yX5_add ∈ zt_G := zt_m 334 (by decide +kernel) (by decide +kernel)
theorem zm_c_X0_rebuildPart : Cond.code yX0_rebuildPart cX0_rebuildPart 5 none ∈ zt_G := zt_m 301 (by decide +kernel) (by decide +kernel)
theorem zm_i_X0_rebuildPart : Cond.instanceMethod yX0_rebuildPart ∈ zt_G := zt_m 300 (by decide +kernel) (by decide +kernel)
theorem zm_e_X0_rebuildPart : Cond.selects RX0 yX0_rebuildPart yX0_rebuildPart ∈ zt_G := zt_s 2 (by decide +kernel) (by decide +kernel)
theorem zm_0_X0 : Cond.initialized RX0 ∈ zt_G := zt_m 10 (by decide +kernel) (by decide +kernel)
theorem zm_d_X0_rebuildPart : yX0_rebuildPart.cls ≠ "java/lang/invoke/MethodHandle" ∧ yX0_rebuildPart.cls ≠ "java/lang/invoke/VarHandle" ∧ (parseMethodDescriptor yX0_rebuildPart.desc).map (fun d => d.parameters.length) = some 2 := by decide +kernel
theorem zm_l_X0_40 : Cond.methodLink RX0 40 yX0_rebuildPart ∈ zt_G := zt_m 298 (by decide +kernel) (by decide +kernel)
theorem zm_f_X0_12 : Cond.fieldLink RX0 12 "VoiceFrames$Decoder" "filter" "LVoiceFrames$Filter;" ∈ zt_G := zt_m 215 (by decide +kernel) (by decide +kernel)
theorem zm_l_X0_44 : Cond.methodLink RX0 44 yX2_learn ∈ zt_G := zt_m 339 (by decide +kernel) (by decide +kernel)
theorem zm_n_X0_83 : (RX0, 83, "VoiceFrames$Filter", "ENDS", "[I") ∈ zn_F := by decide +kernel
theorem zm_l_X0_86 : Cond.methodLink RX0 86 yX2_shape ∈ zt_G := zt_m 357 (by decide +kernel) (by decide +kernel)
theorem zm_n_X0_90 : (RX0, 90, "VoiceFrames$Past", "cells", "[I") ∈ zn_F := by decide +kernel
theorem zm_l_X0_93 : Cond.methodLink RX0 93 yX5_from ∈ zt_G := zt_m 373 (by decide +kernel) (by decide +kernel)
theorem zm_n_X0_100 : (RX0, 100, "VoiceFrames$Filter", "\x72", "[I") ∈ zn_F := by decide +kernel
theorem zm_f_X0_32 : Cond.fieldLink RX0 32 "VoiceFrames$Decoder" "v" "[I" ∈ zt_G := zt_m 220 (by decide +kernel) (by decide +kernel)
theorem zm_l_X0_103 : Cond.methodLink RX0 103 yX4_rounded ∈ zt_G := zt_m 378 (by decide +kernel) (by decide +kernel)
theorem zm_l_X0_109 : Cond.methodLink RX0 109 yX4_cut ∈ zt_G := zt_m 379 (by decide +kernel) (by decide +kernel)
theorem zm_f_X0_67 : Cond.fieldLink RX0 67 "VoiceFrames$Decoder" "echo" "I" ∈ zt_G := zt_m 224 (by decide +kernel) (by decide +kernel)
theorem zm_c_X0_spoken : Cond.code yX0_spoken cX0_spoken 5 (some .int) ∈ zt_G := zt_m 377 (by decide +kernel) (by decide +kernel)
theorem zm_i_X0_spoken : Cond.instanceMethod yX0_spoken ∈ zt_G := zt_m 376 (by decide +kernel) (by decide +kernel)
theorem zm_e_X0_spoken : Cond.selects RX0 yX0_spoken yX0_spoken ∈ zt_G := zt_s 5 (by decide +kernel) (by decide +kernel)
theorem zm_d_X0_spoken : yX0_spoken.cls ≠ "java/lang/invoke/MethodHandle" ∧ yX0_spoken.cls ≠ "java/lang/invoke/VarHandle" ∧ (parseMethodDescriptor yX0_spoken.desc).map (fun d => d.parameters.length) = some 1 := by decide +kernel
theorem zm_l_X0_97 : Cond.methodLink RX0 97 yX0_spoken ∈ zt_G := zt_m 374 (by decide +kernel) (by decide +kernel)
theorem zm_c_X0_giveBack : Cond.code yX0_giveBack cX0_giveBack 4 none ∈ zt_G := zt_m 354 (by decide +kernel) (by decide +kernel)
theorem zm_i_X0_giveBack : Cond.instanceMethod yX0_giveBack ∈ zt_G := zt_m 353 (by decide +kernel) (by decide +kernel)
theorem zm_e_X0_giveBack : Cond.selects RX0 yX0_giveBack yX0_giveBack ∈ zt_G := zt_s 4 (by decide +kernel) (by decide +kernel)
theorem zm_d_X0_giveBack : yX0_giveBack.cls ≠ "java/lang/invoke/MethodHandle" ∧ yX0_giveBack.cls ≠ "java/lang/invoke/VarHandle" ∧ (parseMethodDescriptor yX0_giveBack.desc).map (fun d => d.parameters.length) = some 1 := by decide +kernel
theorem zm_l_X0_48 : Cond.methodLink RX0 48 yX0_giveBack ∈ zt_G := zt_m 351 (by decide +kernel) (by decide +kernel)
theorem zm_l_X0_51 : Cond.methodLink RX0 51 yX5_endFrame ∈ zt_G := zt_m 380 (by decide +kernel) (by decide +kernel)
theorem zm_f_X0_54 : Cond.fieldLink RX0 54 "VoiceFrames$Decoder" "frames" "I" ∈ zt_G := zt_m 226 (by decide +kernel) (by decide +kernel)
theorem zm_l_X0_57 : Cond.methodLink RX0 57 yX2_forget ∈ zt_G := zt_m 703 (by decide +kernel) (by decide +kernel)
theorem zm_l_X0_60 : Cond.methodLink RX0 60 yX5_forget ∈ zt_G := zt_m 704 (by decide +kernel) (by decide +kernel)
theorem zm_l_X0_61 : Cond.methodLink RX0 61 yJ7_fill_53178 ∈ zt_G := zt_m 705 (by decide +kernel) (by decide +kernel)
theorem zm_f_X10_13 : Cond.fieldLink RX10 13 "VoiceFrames" "bytes" "[I" ∈ zt_G := zt_m 244 (by decide +kernel) (by decide +kernel)
theorem zm_w_X10 : ∀ w ∈ wsX100, w ∈ zt_G := by decide +kernel
theorem zm_l_X10_92 : Cond.methodLink RX10 92 yJ7_fill_53178 ∈ zt_G := zt_m 276 (by decide +kernel) (by decide +kernel)
theorem zm_f_X10_150 : Cond.fieldLink RX10 150 "VoiceFrames" "PART_BITS" "[I" ∈ zt_G := zt_m 284 (by decide +kernel) (by decide +kernel)
theorem zm_f_X10_147 : Cond.fieldLink RX10 147 "VoiceFrames" "FILTER_BITS" "[I" ∈ zt_G := zt_m 282 (by decide +kernel) (by decide +kernel)
theorem zm_c_X10_bitsOf : Cond.code yX10_bitsOf cX10_bitsOf 2 (some .int) ∈ zt_G := zt_m 281 (by decide +kernel) (by decide +kernel)
theorem zm_s_X10_bitsOf : Cond.static yX10_bitsOf ∈ zt_G := zt_m 280 (by decide +kernel) (by decide +kernel)
theorem zm_0_X10 : Cond.initialized RX10 ∈ zt_G := zt_m 1 (by decide +kernel) (by decide +kernel)
theorem zm_d_X10_bitsOf : yX10_bitsOf.cls ≠ "java/lang/invoke/MethodHandle" ∧ yX10_bitsOf.cls ≠ "java/lang/invoke/VarHandle" ∧ (parseMethodDescriptor yX10_bitsOf.desc).map (fun d => d.parameters.length) = some 1 := by decide +kernel
theorem zm_l_X10_153 : Cond.methodLink RX10 153 yX10_bitsOf ∈ zt_G := zt_m 279 (by decide +kernel) (by decide +kernel)
theorem zm_f_X10_16 : Cond.fieldLink RX10 16 "VoiceFrames" "parameters" "[I" ∈ zt_G := zt_m 245 (by decide +kernel) (by decide +kernel)
theorem zm_c_X10_pack : Cond.code yX10_pack cX10_pack 5 none ∈ zt_G := zt_m 275 (by decide +kernel) (by decide +kernel)
theorem zm_i_X10_pack : Cond.instanceMethod yX10_pack ∈ zt_G := zt_m 274 (by decide +kernel) (by decide +kernel)
theorem zm_e_X10_pack : Cond.selects RX10 yX10_pack yX10_pack ∈ zt_G := zt_s 0 (by decide +kernel) (by decide +kernel)
theorem zm_d_X10_pack : yX10_pack.cls ≠ "java/lang/invoke/MethodHandle" ∧ yX10_pack.cls ≠ "java/lang/invoke/VarHandle" ∧ (parseMethodDescriptor yX10_pack.desc).map (fun d => d.parameters.length) = some 0 := by decide +kernel
theorem zm_l_X10_74 : Cond.methodLink RX10 74 yX10_pack ∈ zt_G := zt_m 272 (by decide +kernel) (by decide +kernel)
theorem zm_f_X10_40 : Cond.fieldLink RX10 40 "VoiceFrames" "byteCount" "I" ∈ zt_G := zt_m 250 (by decide +kernel) (by decide +kernel)
theorem zm_c_X10_unpack : Cond.code yX10_unpack cX10_unpack 6 none ∈ zt_G := zt_m 293 (by decide +kernel) (by decide +kernel)
theorem zm_i_X10_unpack : Cond.instanceMethod yX10_unpack ∈ zt_G := zt_m 292 (by decide +kernel) (by decide +kernel)
theorem zm_e_X10_unpack : Cond.selects RX10 yX10_unpack yX10_unpack ∈ zt_G := zt_s 1 (by decide +kernel) (by decide +kernel)
theorem zm_d_X10_unpack : yX10_unpack.cls ≠ "java/lang/invoke/MethodHandle" ∧ yX10_unpack.cls ≠ "java/lang/invoke/VarHandle" ∧ (parseMethodDescriptor yX10_unpack.desc).map (fun d => d.parameters.length) = some 0 := by decide +kernel
theorem zm_l_X10_77 : Cond.methodLink RX10 77 yX10_unpack ∈ zt_G := zt_m 290 (by decide +kernel) (by decide +kernel)
theorem zm_f_X10_32 : Cond.fieldLink RX10 32 "VoiceFrames" "decoder" "LVoiceFrames$Decoder;" ∈ zt_G := zt_m 248 (by decide +kernel) (by decide +kernel)
theorem zm_f_X10_19 : Cond.fieldLink RX10 19 "VoiceFrames" "heard" "[I" ∈ zt_G := zt_m 246 (by decide +kernel) (by decide +kernel)
theorem zm_c_X0_speak : Cond.code yX0_speak cX0_speak 4 none ∈ zt_G := zt_m 297 (by decide +kernel) (by decide +kernel)
theorem zm_i_X0_speak : Cond.instanceMethod yX0_speak ∈ zt_G := zt_m 295 (by decide +kernel) (by decide +kernel)
theorem zm_e_X0_speak : Cond.selects RX0 yX0_speak yX0_speak ∈ zt_G := zt_m 296 (by decide +kernel) (by decide +kernel)
theorem zm_d_X0_speak : yX0_speak.cls ≠ "java/lang/invoke/MethodHandle" ∧ yX0_speak.cls ≠ "java/lang/invoke/VarHandle" ∧ (parseMethodDescriptor yX0_speak.desc).map (fun d => d.parameters.length) = some 2 := by decide +kernel
theorem zm_l_X10_80 : Cond.methodLink RX10 80 yX0_speak ∈ zt_G := zt_m 294 (by decide +kernel) (by decide +kernel)
theorem zm_n_X10_83 : (RX10, 83, "VoiceFrames$Decoder", "frames", "I") ∈ zn_F := by decide +kernel
theorem zm_f_X10_36 : Cond.fieldLink RX10 36 "VoiceFrames" "sampleCount" "I" ∈ zt_G := zt_m 249 (by decide +kernel) (by decide +kernel)
theorem zm_f_X10_9 : Cond.fieldLink RX10 9 "VoiceFrames" "samples" "[I" ∈ zt_G := zt_m 243 (by decide +kernel) (by decide +kernel)
theorem zm_f_X10_25 : Cond.fieldLink RX10 25 "VoiceFrames" "encoder" "LVoiceFrames$Encoder;" ∈ zt_G := zt_m 247 (by decide +kernel) (by decide +kernel)
theorem zm_c_X1_describe : Cond.code yX1_describe cX1_describe 4 none ∈ zt_G := zt_m 503 (by decide +kernel) (by decide +kernel)
theorem zm_i_X1_describe : Cond.instanceMethod yX1_describe ∈ zt_G := zt_m 501 (by decide +kernel) (by decide +kernel)
theorem zm_e_X1_describe : Cond.selects RX1 yX1_describe yX1_describe ∈ zt_G := zt_m 502 (by decide +kernel) (by decide +kernel)
theorem zm_d_X1_describe : yX1_describe.cls ≠ "java/lang/invoke/MethodHandle" ∧ yX1_describe.cls ≠ "java/lang/invoke/VarHandle" ∧ (parseMethodDescriptor yX1_describe.desc).map (fun d => d.parameters.length) = some 2 := by decide +kernel
theorem zm_l_X10_61 : Cond.methodLink RX10 61 yX1_describe ∈ zt_G := zt_m 500 (by decide +kernel) (by decide +kernel)
theorem zm_n_X10_65 : (RX10, 65, "VoiceFrames$Encoder", "frames", "I") ∈ zn_F := by decide +kernel
theorem zm_c_X0_forget : Cond.code yX0_forget cX0_forget 1 none ∈ zt_G := zt_m 702 (by decide +kernel) (by decide +kernel)
theorem zm_i_X0_forget : Cond.instanceMethod yX0_forget ∈ zt_G := zt_m 700 (by decide +kernel) (by decide +kernel)
theorem zm_e_X0_forget : Cond.selects RX0 yX0_forget yX0_forget ∈ zt_G := zt_m 701 (by decide +kernel) (by decide +kernel)
theorem zm_d_X0_forget : yX0_forget.cls ≠ "java/lang/invoke/MethodHandle" ∧ yX0_forget.cls ≠ "java/lang/invoke/VarHandle" ∧ (parseMethodDescriptor yX0_forget.desc).map (fun d => d.parameters.length) = some 0 := by decide +kernel
theorem zm_l_X10_91 : Cond.methodLink RX10 91 yX0_forget ∈ zt_G := zt_m 699 (by decide +kernel) (by decide +kernel)
theorem zm_c_X1_forget : Cond.code yX1_forget cX1_forget 1 none ∈ zt_G := zt_m 683 (by decide +kernel) (by decide +kernel)
theorem zm_i_X1_forget : Cond.instanceMethod yX1_forget ∈ zt_G := zt_m 681 (by decide +kernel) (by decide +kernel)
theorem zm_e_X1_forget : Cond.selects RX1 yX1_forget yX1_forget ∈ zt_G := zt_m 682 (by decide +kernel) (by decide +kernel)
theorem zm_d_X1_forget : yX1_forget.cls ≠ "java/lang/invoke/MethodHandle" ∧ yX1_forget.cls ≠ "java/lang/invoke/VarHandle" ∧ (parseMethodDescriptor yX1_forget.desc).map (fun d => d.parameters.length) = some 0 := by decide +kernel
theorem zm_l_X10_88 : Cond.methodLink RX10 88 yX1_forget ∈ zt_G := zt_m 680 (by decide +kernel) (by decide +kernel)
theorem zm_c_X10_stateCells : Cond.code yX10_stateCells cX10_stateCells 1 (some .int) ∈ zt_G := zt_m 715 (by decide +kernel) (by decide +kernel)
theorem zm_s_X10_stateCells : Cond.static yX10_stateCells ∈ zt_G := zt_m 714 (by decide +kernel) (by decide +kernel)
theorem zm_d_X10_stateCells : yX10_stateCells.cls ≠ "java/lang/invoke/MethodHandle" ∧ yX10_stateCells.cls ≠ "java/lang/invoke/VarHandle" ∧ (parseMethodDescriptor yX10_stateCells.desc).map (fun d => d.parameters.length) = some 1 := by decide +kernel
theorem zm_l_X10_98 : Cond.methodLink RX10 98 yX10_stateCells ∈ zt_G := zt_m 713 (by decide +kernel) (by decide +kernel)
theorem zm_n_X10_104 : (RX10, 104, "VoiceFrames$Encoder", "filter", "LVoiceFrames$Filter;") ∈ zn_F := by decide +kernel
theorem zm_n_X10_108 : (RX10, 108, "VoiceFrames$Filter", "g", "[I") ∈ zn_F := by decide +kernel
theorem zm_n_X10_113 : (RX10, 113, "VoiceFrames$Decoder", "filter", "LVoiceFrames$Filter;") ∈ zn_F := by decide +kernel
theorem zm_n_X10_114 : (RX10, 114, "VoiceFrames$Encoder", "past", "LVoiceFrames$Past;") ∈ zn_F := by decide +kernel
theorem zm_n_X10_118 : (RX10, 118, "VoiceFrames$Past", "cells", "[I") ∈ zn_F := by decide +kernel
theorem zm_n_X10_123 : (RX10, 123, "VoiceFrames$Decoder", "past", "LVoiceFrames$Past;") ∈ zn_F := by decide +kernel
theorem zm_n_X10_124 : (RX10, 124, "VoiceFrames$Encoder", "u", "[I") ∈ zn_F := by decide +kernel
theorem zm_n_X10_127 : (RX10, 127, "VoiceFrames$Decoder", "v", "[I") ∈ zn_F := by decide +kernel
theorem zm_n_X10_130 : (RX10, 130, "VoiceFrames$Encoder", "inlet", "LVoiceFrames$Inlet;") ∈ zn_F := by decide +kernel
theorem zm_c_X3_goingOn : Cond.code yX3_goingOn cX3_goingOn 2 (some .int) ∈ zt_G := zt_m 720 (by decide +kernel) (by decide +kernel)
theorem zm_i_X3_goingOn : Cond.instanceMethod yX3_goingOn ∈ zt_G := zt_m 718 (by decide +kernel) (by decide +kernel)
theorem zm_e_X3_goingOn : Cond.selects RX3 yX3_goingOn yX3_goingOn ∈ zt_G := zt_m 719 (by decide +kernel) (by decide +kernel)
theorem zm_d_X3_goingOn : yX3_goingOn.cls ≠ "java/lang/invoke/MethodHandle" ∧ yX3_goingOn.cls ≠ "java/lang/invoke/VarHandle" ∧ (parseMethodDescriptor yX3_goingOn.desc).map (fun d => d.parameters.length) = some 1 := by decide +kernel
theorem zm_l_X10_134 : Cond.methodLink RX10 134 yX3_goingOn ∈ zt_G := zt_m 717 (by decide +kernel) (by decide +kernel)
theorem zm_n_X10_142 : (RX10, 142, "VoiceFrames$Decoder", "echo", "I") ∈ zn_F := by decide +kernel
theorem zm_n_X10_139 : (RX10, 139, "VoiceFrames$Decoder", "back", "I") ∈ zn_F := by decide +kernel
theorem zm_f_X11_69 : Cond.fieldLink RX11 69 "VoiceFramesModel" "code" "I" ∈ zt_G := zt_m 735 (by decide +kernel) (by decide +kernel)
theorem zm_w_X11 : ∀ w ∈ wsX110, w ∈ zt_G := by decide +kernel
theorem zm_c_X11_refuses : Cond.code yX11_refuses cX11_refuses 2 (some .boolean) ∈ zt_G := zt_m 838 (by decide +kernel) (by decide +kernel)
theorem zm_i_X11_refuses : Cond.instanceMethod yX11_refuses ∈ zt_G := zt_m 837 (by decide +kernel) (by decide +kernel)
theorem zm_e_X11_refuses : Cond.selects RX11 yX11_refuses yX11_refuses ∈ zt_G := zt_s 19 (by decide +kernel) (by decide +kernel)
theorem zm_0_X11 : Cond.initialized RX11 ∈ zt_G := zt_m 11 (by decide +kernel) (by decide +kernel)
theorem zm_d_X11_refuses : yX11_refuses.cls ≠ "java/lang/invoke/MethodHandle" ∧ yX11_refuses.cls ≠ "java/lang/invoke/VarHandle" ∧ (parseMethodDescriptor yX11_refuses.desc).map (fun d => d.parameters.length) = some 1 := by decide +kernel
theorem zm_l_X11_91 : Cond.methodLink RX11 91 yX11_refuses ∈ zt_G := zt_m 835 (by decide +kernel) (by decide +kernel)
theorem zm_f_X11_7 : Cond.fieldLink RX11 7 "VoiceFramesModel" "samples" "[J" ∈ zt_G := zt_m 737 (by decide +kernel) (by decide +kernel)
theorem zm_f_X11_88 : Cond.fieldLink RX11 88 "VoiceFramesModel" "count" "I" ∈ zt_G := zt_m 736 (by decide +kernel) (by decide +kernel)
theorem zm_k_X11_95 : Cond.constantLong RX11 95 (65535) ∈ zt_G := zt_m 843 (by decide +kernel) (by decide +kernel)
theorem zm_k_X11_72 : Cond.constantLong RX11 72 (32767) ∈ zt_G := zt_m 844 (by decide +kernel) (by decide +kernel)
theorem zm_k_X11_97 : Cond.constantLong RX11 97 (65536) ∈ zt_G := zt_m 845 (by decide +kernel) (by decide +kernel)
theorem zm_k_X11_99 : Cond.constantLong RX11 99 (4) ∈ zt_G := zt_m 854 (by decide +kernel) (by decide +kernel)
theorem zm_f_X11_101 : Cond.fieldLink RX11 101 "VoiceFramesModel" "z" "J" ∈ zt_G := zt_m 744 (by decide +kernel) (by decide +kernel)
theorem zm_k_X11_105 : Cond.constantLong RX11 105 (32768) ∈ zt_G := zt_m 855 (by decide +kernel) (by decide +kernel)
theorem zm_f_X11_107 : Cond.fieldLink RX11 107 "VoiceFramesModel" "w" "J" ∈ zt_G := zt_m 745 (by decide +kernel) (by decide +kernel)
theorem zm_k_X11_110 : Cond.constantLong RX11 110 (32735) ∈ zt_G := zt_m 856 (by decide +kernel) (by decide +kernel)
theorem zm_k_X11_80 : Cond.constantLong RX11 80 (16384) ∈ zt_G := zt_m 860 (by decide +kernel) (by decide +kernel)
theorem zm_k_X11_74 : Cond.constantLong RX11 74 (-32768) ∈ zt_G := zt_m 864 (by decide +kernel) (by decide +kernel)
theorem zm_c_X11_cut : Cond.code yX11_cut cX11_cut 2 (some .long) ∈ zt_G := zt_m 863 (by decide +kernel) (by decide +kernel)
theorem zm_s_X11_cut : Cond.static yX11_cut ∈ zt_G := zt_m 862 (by decide +kernel) (by decide +kernel)
theorem zm_d_X11_cut : yX11_cut.cls ≠ "java/lang/invoke/MethodHandle" ∧ yX11_cut.cls ≠ "java/lang/invoke/VarHandle" ∧ (parseMethodDescriptor yX11_cut.desc).map (fun d => d.parameters.length) = some 1 := by decide +kernel
theorem zm_l_X11_82 : Cond.methodLink RX11 82 yX11_cut ∈ zt_G := zt_m 861 (by decide +kernel) (by decide +kernel)
theorem zm_c_X11_rounded : Cond.code yX11_rounded cX11_rounded 4 (some .long) ∈ zt_G := zt_m 859 (by decide +kernel) (by decide +kernel)
theorem zm_s_X11_rounded : Cond.static yX11_rounded ∈ zt_G := zt_m 858 (by decide +kernel) (by decide +kernel)
theorem zm_d_X11_rounded : yX11_rounded.cls ≠ "java/lang/invoke/MethodHandle" ∧ yX11_rounded.cls ≠ "java/lang/invoke/VarHandle" ∧ (parseMethodDescriptor yX11_rounded.desc).map (fun d => d.parameters.length) = some 2 := by decide +kernel
theorem zm_l_X11_112 : Cond.methodLink RX11 112 yX11_rounded ∈ zt_G := zt_m 857 (by decide +kernel) (by decide +kernel)
theorem zm_k_X11_76 : Cond.constantLong RX11 76 (2147483647) ∈ zt_G := zt_m 868 (by decide +kernel) (by decide +kernel)
theorem zm_k_X11_78 : Cond.constantLong RX11 78 (-2147483648) ∈ zt_G := zt_m 869 (by decide +kernel) (by decide +kernel)
theorem zm_c_X11_wide : Cond.code yX11_wide cX11_wide 2 (some .long) ∈ zt_G := zt_m 867 (by decide +kernel) (by decide +kernel)
theorem zm_s_X11_wide : Cond.static yX11_wide ∈ zt_G := zt_m 866 (by decide +kernel) (by decide +kernel)
theorem zm_d_X11_wide : yX11_wide.cls ≠ "java/lang/invoke/MethodHandle" ∧ yX11_wide.cls ≠ "java/lang/invoke/VarHandle" ∧ (parseMethodDescriptor yX11_wide.desc).map (fun d => d.parameters.length) = some 1 := by decide +kernel
theorem zm_l_X11_116 : Cond.methodLink RX11 116 yX11_wide ∈ zt_G := zt_m 865 (by decide +kernel) (by decide +kernel)
theorem zm_f_X11_39 : Cond.fieldLink RX11 39 "VoiceFramesModel" "x" "[J" ∈ zt_G := zt_m 753 (by decide +kernel) (by decide +kernel)
theorem zm_f_X11_119 : Cond.fieldLink RX11 119 "VoiceFramesModel" "m" "J" ∈ zt_G := zt_m 746 (by decide +kernel) (by decide +kernel)
theorem zm_k_X11_122 : Cond.constantLong RX11 122 (-28180) ∈ zt_G := zt_m 870 (by decide +kernel) (by decide +kernel)
theorem zm_c_X11_prepares : Cond.code yX11_prepares cX11_prepares 12 none ∈ zt_G := zt_m 853 (by decide +kernel) (by decide +kernel)
theorem zm_i_X11_prepares : Cond.instanceMethod yX11_prepares ∈ zt_G := zt_m 852 (by decide +kernel) (by decide +kernel)
theorem zm_e_X11_prepares : Cond.selects RX11 yX11_prepares yX11_prepares ∈ zt_G := zt_s 20 (by decide +kernel) (by decide +kernel)
theorem zm_d_X11_prepares : yX11_prepares.cls ≠ "java/lang/invoke/MethodHandle" ∧ yX11_prepares.cls ≠ "java/lang/invoke/VarHandle" ∧ (parseMethodDescriptor yX11_prepares.desc).map (fun d => d.parameters.length) = some 0 := by decide +kernel
theorem zm_l_X11_199 : Cond.methodLink RX11 199 yX11_prepares ∈ zt_G := zt_m 850 (by decide +kernel) (by decide +kernel)
theorem zm_c_X11_size : Cond.code yX11_size cX11_size 2 (some .long) ∈ zt_G := zt_m 880 (by decide +kernel) (by decide +kernel)
theorem zm_s_X11_size : Cond.static yX11_size ∈ zt_G := zt_m 879 (by decide +kernel) (by decide +kernel)
theorem zm_d_X11_size : yX11_size.cls ≠ "java/lang/invoke/MethodHandle" ∧ yX11_size.cls ≠ "java/lang/invoke/VarHandle" ∧ (parseMethodDescriptor yX11_size.desc).map (fun d => d.parameters.length) = some 1 := by decide +kernel
theorem zm_l_X11_124 : Cond.methodLink RX11 124 yX11_size ∈ zt_G := zt_m 878 (by decide +kernel) (by decide +kernel)
theorem zm_c_X11_greatest : Cond.code yX11_greatest cX11_greatest 6 (some .long) ∈ zt_G := zt_m 877 (by decide +kernel) (by decide +kernel)
theorem zm_s_X11_greatest : Cond.static yX11_greatest ∈ zt_G := zt_m 876 (by decide +kernel) (by decide +kernel)
theorem zm_d_X11_greatest : yX11_greatest.cls ≠ "java/lang/invoke/MethodHandle" ∧ yX11_greatest.cls ≠ "java/lang/invoke/VarHandle" ∧ (parseMethodDescriptor yX11_greatest.desc).map (fun d => d.parameters.length) = some 3 := by decide +kernel
theorem zm_l_X11_127 : Cond.methodLink RX11 127 yX11_greatest ∈ zt_G := zt_m 875 (by decide +kernel) (by decide +kernel)
theorem zm_k_X11_86 : Cond.constantLong RX11 86 (1073741824) ∈ zt_G := zt_m 884 (by decide +kernel) (by decide +kernel)
theorem zm_c_X11_norm : Cond.code yX11_norm cX11_norm 3 (some .int) ∈ zt_G := zt_m 883 (by decide +kernel) (by decide +kernel)
theorem zm_s_X11_norm : Cond.static yX11_norm ∈ zt_G := zt_m 882 (by decide +kernel) (by decide +kernel)
theorem zm_d_X11_norm : yX11_norm.cls ≠ "java/lang/invoke/MethodHandle" ∧ yX11_norm.cls ≠ "java/lang/invoke/VarHandle" ∧ (parseMethodDescriptor yX11_norm.desc).map (fun d => d.parameters.length) = some 1 := by decide +kernel
theorem zm_l_X11_131 : Cond.methodLink RX11 131 yX11_norm ∈ zt_G := zt_m 881 (by decide +kernel) (by decide +kernel)
theorem zm_f_X11_51 : Cond.fieldLink RX11 51 "VoiceFramesModel" "k" "[J" ∈ zt_G := zt_m 757 (by decide +kernel) (by decide +kernel)
theorem zm_k_X11_135 : Cond.constantLong RX11 135 (2) ∈ zt_G := zt_m 885 (by decide +kernel) (by decide +kernel)
theorem zm_c_X11_correlates : Cond.code yX11_correlates cX11_correlates 8 none ∈ zt_G := zt_m 874 (by decide +kernel) (by decide +kernel)
theorem zm_i_X11_correlates : Cond.instanceMethod yX11_correlates ∈ zt_G := zt_m 873 (by decide +kernel) (by decide +kernel)
theorem zm_e_X11_correlates : Cond.selects RX11 yX11_correlates yX11_correlates ∈ zt_G := zt_s 21 (by decide +kernel) (by decide +kernel)
theorem zm_d_X11_correlates : yX11_correlates.cls ≠ "java/lang/invoke/MethodHandle" ∧ yX11_correlates.cls ≠ "java/lang/invoke/VarHandle" ∧ (parseMethodDescriptor yX11_correlates.desc).map (fun d => d.parameters.length) = some 0 := by decide +kernel
theorem zm_l_X11_202 : Cond.methodLink RX11 202 yX11_correlates ∈ zt_G := zt_m 871 (by decide +kernel) (by decide +kernel)
theorem zm_f_X11_60 : Cond.fieldLink RX11 60 "VoiceFramesModel" "\x72" "[J" ∈ zt_G := zt_m 760 (by decide +kernel) (by decide +kernel)
theorem zm_f_X11_54 : Cond.fieldLink RX11 54 "VoiceFramesModel" "p" "[J" ∈ zt_G := zt_m 758 (by decide +kernel) (by decide +kernel)
theorem zm_f_X11_57 : Cond.fieldLink RX11 57 "VoiceFramesModel" "q" "[J" ∈ zt_G := zt_m 759 (by decide +kernel) (by decide +kernel)
theorem zm_c_X11_reflects : Cond.code yX11_reflects cX11_reflects 10 none ∈ zt_G := zt_m 889 (by decide +kernel) (by decide +kernel)
theorem zm_i_X11_reflects : Cond.instanceMethod yX11_reflects ∈ zt_G := zt_m 888 (by decide +kernel) (by decide +kernel)
theorem zm_e_X11_reflects : Cond.selects RX11 yX11_reflects yX11_reflects ∈ zt_G := zt_s 22 (by decide +kernel) (by decide +kernel)
theorem zm_d_X11_reflects : yX11_reflects.cls ≠ "java/lang/invoke/MethodHandle" ∧ yX11_reflects.cls ≠ "java/lang/invoke/VarHandle" ∧ (parseMethodDescriptor yX11_reflects.desc).map (fun d => d.parameters.length) = some 0 := by decide +kernel
theorem zm_l_X11_205 : Cond.methodLink RX11 205 yX11_reflects ∈ zt_G := zt_m 886 (by decide +kernel) (by decide +kernel)
theorem zm_k_X11_137 : Cond.constantLong RX11 137 (22118) ∈ zt_G := zt_m 894 (by decide +kernel) (by decide +kernel)
theorem zm_k_X11_139 : Cond.constantLong RX11 139 (31130) ∈ zt_G := zt_m 895 (by decide +kernel) (by decide +kernel)
theorem zm_k_X11_143 : Cond.constantLong RX11 143 (26112) ∈ zt_G := zt_m 897 (by decide +kernel) (by decide +kernel)
theorem zm_c_X11_tableA : Cond.code yX11_tableA cX11_tableA 1 (some .int) ∈ zt_G := zt_m 900 (by decide +kernel) (by decide +kernel)
theorem zm_s_X11_tableA : Cond.static yX11_tableA ∈ zt_G := zt_m 899 (by decide +kernel) (by decide +kernel)
theorem zm_d_X11_tableA : yX11_tableA.cls ≠ "java/lang/invoke/MethodHandle" ∧ yX11_tableA.cls ≠ "java/lang/invoke/VarHandle" ∧ (parseMethodDescriptor yX11_tableA.desc).map (fun d => d.parameters.length) = some 1 := by decide +kernel
theorem zm_l_X11_145 : Cond.methodLink RX11 145 yX11_tableA ∈ zt_G := zt_m 898 (by decide +kernel) (by decide +kernel)
theorem zm_c_X11_lower : Cond.code yX11_lower cX11_lower 4 (some .long) ∈ zt_G := zt_m 903 (by decide +kernel) (by decide +kernel)
theorem zm_s_X11_lower : Cond.static yX11_lower ∈ zt_G := zt_m 902 (by decide +kernel) (by decide +kernel)
theorem zm_d_X11_lower : yX11_lower.cls ≠ "java/lang/invoke/MethodHandle" ∧ yX11_lower.cls ≠ "java/lang/invoke/VarHandle" ∧ (parseMethodDescriptor yX11_lower.desc).map (fun d => d.parameters.length) = some 2 := by decide +kernel
theorem zm_l_X11_149 : Cond.methodLink RX11 149 yX11_lower ∈ zt_G := zt_m 901 (by decide +kernel) (by decide +kernel)
theorem zm_c_X11_tableB : Cond.code yX11_tableB cX11_tableB 1 (some .int) ∈ zt_G := zt_m 906 (by decide +kernel) (by decide +kernel)
theorem zm_s_X11_tableB : Cond.static yX11_tableB ∈ zt_G := zt_m 905 (by decide +kernel) (by decide +kernel)
theorem zm_d_X11_tableB : yX11_tableB.cls ≠ "java/lang/invoke/MethodHandle" ∧ yX11_tableB.cls ≠ "java/lang/invoke/VarHandle" ∧ (parseMethodDescriptor yX11_tableB.desc).map (fun d => d.parameters.length) = some 1 := by decide +kernel
theorem zm_l_X11_152 : Cond.methodLink RX11 152 yX11_tableB ∈ zt_G := zt_m 904 (by decide +kernel) (by decide +kernel)
theorem zm_k_X11_155 : Cond.constantLong RX11 155 (256) ∈ zt_G := zt_m 907 (by decide +kernel) (by decide +kernel)
theorem zm_c_X11_least : Cond.code yX11_least cX11_least 1 (some .int) ∈ zt_G := zt_m 910 (by decide +kernel) (by decide +kernel)
theorem zm_s_X11_least : Cond.static yX11_least ∈ zt_G := zt_m 909 (by decide +kernel) (by decide +kernel)
theorem zm_d_X11_least : yX11_least.cls ≠ "java/lang/invoke/MethodHandle" ∧ yX11_least.cls ≠ "java/lang/invoke/VarHandle" ∧ (parseMethodDescriptor yX11_least.desc).map (fun d => d.parameters.length) = some 1 := by decide +kernel
theorem zm_l_X11_157 : Cond.methodLink RX11 157 yX11_least ∈ zt_G := zt_m 908 (by decide +kernel) (by decide +kernel)
theorem zm_f_X11_17 : Cond.fieldLink RX11 17 "VoiceFramesModel" "parameters" "[I" ∈ zt_G := zt_m 740 (by decide +kernel) (by decide +kernel)
theorem zm_k_X11_141 : Cond.constantLong RX11 141 (11059) ∈ zt_G := zt_m 896 (by decide +kernel) (by decide +kernel)
theorem zm_c_X11_tellsFilter : Cond.code yX11_tellsFilter cX11_tellsFilter 8 none ∈ zt_G := zt_m 893 (by decide +kernel) (by decide +kernel)
theorem zm_i_X11_tellsFilter : Cond.instanceMethod yX11_tellsFilter ∈ zt_G := zt_m 892 (by decide +kernel) (by decide +kernel)
theorem zm_e_X11_tellsFilter : Cond.selects RX11 yX11_tellsFilter yX11_tellsFilter ∈ zt_G := zt_s 23 (by decide +kernel) (by decide +kernel)
theorem zm_d_X11_tellsFilter : yX11_tellsFilter.cls ≠ "java/lang/invoke/MethodHandle" ∧ yX11_tellsFilter.cls ≠ "java/lang/invoke/VarHandle" ∧ (parseMethodDescriptor yX11_tellsFilter.desc).map (fun d => d.parameters.length) = some 0 := by decide +kernel
theorem zm_l_X11_208 : Cond.methodLink RX11 208 yX11_tellsFilter ∈ zt_G := zt_m 890 (by decide +kernel) (by decide +kernel)
theorem zm_k_X11_160 : Cond.constantLong RX11 160 (1024) ∈ zt_G := zt_m 915 (by decide +kernel) (by decide +kernel)
theorem zm_f_X11_63 : Cond.fieldLink RX11 63 "VoiceFramesModel" "g" "[J" ∈ zt_G := zt_m 761 (by decide +kernel) (by decide +kernel)
theorem zm_c_X11_tableC : Cond.code yX11_tableC cX11_tableC 1 (some .int) ∈ zt_G := zt_m 918 (by decide +kernel) (by decide +kernel)
theorem zm_s_X11_tableC : Cond.static yX11_tableC ∈ zt_G := zt_m 917 (by decide +kernel) (by decide +kernel)
theorem zm_d_X11_tableC : yX11_tableC.cls ≠ "java/lang/invoke/MethodHandle" ∧ yX11_tableC.cls ≠ "java/lang/invoke/VarHandle" ∧ (parseMethodDescriptor yX11_tableC.desc).map (fun d => d.parameters.length) = some 1 := by decide +kernel
theorem zm_l_X11_162 : Cond.methodLink RX11 162 yX11_tableC ∈ zt_G := zt_m 916 (by decide +kernel) (by decide +kernel)
theorem zm_c_X11_makesG : Cond.code yX11_makesG cX11_makesG 4 none ∈ zt_G := zt_m 914 (by decide +kernel) (by decide +kernel)
theorem zm_i_X11_makesG : Cond.instanceMethod yX11_makesG ∈ zt_G := zt_m 913 (by decide +kernel) (by decide +kernel)
theorem zm_e_X11_makesG : Cond.selects RX11 yX11_makesG yX11_makesG ∈ zt_G := zt_s 24 (by decide +kernel) (by decide +kernel)
theorem zm_d_X11_makesG : yX11_makesG.cls ≠ "java/lang/invoke/MethodHandle" ∧ yX11_makesG.cls ≠ "java/lang/invoke/VarHandle" ∧ (parseMethodDescriptor yX11_makesG.desc).map (fun d => d.parameters.length) = some 0 := by decide +kernel
theorem zm_l_X11_211 : Cond.methodLink RX11 211 yX11_makesG ∈ zt_G := zt_m 911 (by decide +kernel) (by decide +kernel)
theorem zm_f_X11_23 : Cond.fieldLink RX11 23 "VoiceFramesModel" "lastG" "[J" ∈ zt_G := zt_m 747 (by decide +kernel) (by decide +kernel)
theorem zm_k_X11_165 : Cond.constantLong RX11 165 (20070) ∈ zt_G := zt_m 927 (by decide +kernel) (by decide +kernel)
theorem zm_c_X11_makesR : Cond.code yX11_makesR cX11_makesR 10 none ∈ zt_G := zt_m 926 (by decide +kernel) (by decide +kernel)
theorem zm_i_X11_makesR : Cond.instanceMethod yX11_makesR ∈ zt_G := zt_m 925 (by decide +kernel) (by decide +kernel)
theorem zm_e_X11_makesR : Cond.selects RX11 yX11_makesR yX11_makesR ∈ zt_G := zt_s 26 (by decide +kernel) (by decide +kernel)
theorem zm_d_X11_makesR : yX11_makesR.cls ≠ "java/lang/invoke/MethodHandle" ∧ yX11_makesR.cls ≠ "java/lang/invoke/VarHandle" ∧ (parseMethodDescriptor yX11_makesR.desc).map (fun d => d.parameters.length) = some 2 := by decide +kernel
theorem zm_l_X11_167 : Cond.methodLink RX11 167 yX11_makesR ∈ zt_G := zt_m 923 (by decide +kernel) (by decide +kernel)
theorem zm_f_X11_26 : Cond.fieldLink RX11 26 "VoiceFramesModel" "u" "[J" ∈ zt_G := zt_m 748 (by decide +kernel) (by decide +kernel)
theorem zm_f_X11_42 : Cond.fieldLink RX11 42 "VoiceFramesModel" "left" "[J" ∈ zt_G := zt_m 754 (by decide +kernel) (by decide +kernel)
theorem zm_c_X11_leaves : Cond.code yX11_leaves cX11_leaves 9 none ∈ zt_G := zt_m 922 (by decide +kernel) (by decide +kernel)
theorem zm_i_X11_leaves : Cond.instanceMethod yX11_leaves ∈ zt_G := zt_m 921 (by decide +kernel) (by decide +kernel)
theorem zm_e_X11_leaves : Cond.selects RX11 yX11_leaves yX11_leaves ∈ zt_G := zt_s 25 (by decide +kernel) (by decide +kernel)
theorem zm_d_X11_leaves : yX11_leaves.cls ≠ "java/lang/invoke/MethodHandle" ∧ yX11_leaves.cls ≠ "java/lang/invoke/VarHandle" ∧ (parseMethodDescriptor yX11_leaves.desc).map (fun d => d.parameters.length) = some 0 := by decide +kernel
theorem zm_l_X11_214 : Cond.methodLink RX11 214 yX11_leaves ∈ zt_G := zt_m 919 (by decide +kernel) (by decide +kernel)
theorem zm_c_X11_keepsG : Cond.code yX11_keepsG cX11_keepsG 3 none ∈ zt_G := zt_m 931 (by decide +kernel) (by decide +kernel)
theorem zm_i_X11_keepsG : Cond.instanceMethod yX11_keepsG ∈ zt_G := zt_m 930 (by decide +kernel) (by decide +kernel)
theorem zm_e_X11_keepsG : Cond.selects RX11 yX11_keepsG yX11_keepsG ∈ zt_G := zt_s 27 (by decide +kernel) (by decide +kernel)
theorem zm_d_X11_keepsG : yX11_keepsG.cls ≠ "java/lang/invoke/MethodHandle" ∧ yX11_keepsG.cls ≠ "java/lang/invoke/VarHandle" ∧ (parseMethodDescriptor yX11_keepsG.desc).map (fun d => d.parameters.length) = some 1 := by decide +kernel
theorem zm_l_X11_217 : Cond.methodLink RX11 217 yX11_keepsG ∈ zt_G := zt_m 928 (by decide +kernel) (by decide +kernel)
theorem zm_f_X11_32 : Cond.fieldLink RX11 32 "VoiceFramesModel" "past" "[J" ∈ zt_G := zt_m 750 (by decide +kernel) (by decide +kernel)
theorem zm_c_X11_tableD : Cond.code yX11_tableD cX11_tableD 1 (some .int) ∈ zt_G := zt_m 938 (by decide +kernel) (by decide +kernel)
theorem zm_s_X11_tableD : Cond.static yX11_tableD ∈ zt_G := zt_m 937 (by decide +kernel) (by decide +kernel)
theorem zm_d_X11_tableD : yX11_tableD.cls ≠ "java/lang/invoke/MethodHandle" ∧ yX11_tableD.cls ≠ "java/lang/invoke/VarHandle" ∧ (parseMethodDescriptor yX11_tableD.desc).map (fun d => d.parameters.length) = some 1 := by decide +kernel
theorem zm_l_X11_171 : Cond.methodLink RX11 171 yX11_tableD ∈ zt_G := zt_m 936 (by decide +kernel) (by decide +kernel)
theorem zm_c_X11_looksBack : Cond.code yX11_looksBack cX11_looksBack 15 none ∈ zt_G := zt_m 935 (by decide +kernel) (by decide +kernel)
theorem zm_i_X11_looksBack : Cond.instanceMethod yX11_looksBack ∈ zt_G := zt_m 934 (by decide +kernel) (by decide +kernel)
theorem zm_e_X11_looksBack : Cond.selects RX11 yX11_looksBack yX11_looksBack ∈ zt_G := zt_s 28 (by decide +kernel) (by decide +kernel)
theorem zm_d_X11_looksBack : yX11_looksBack.cls ≠ "java/lang/invoke/MethodHandle" ∧ yX11_looksBack.cls ≠ "java/lang/invoke/VarHandle" ∧ (parseMethodDescriptor yX11_looksBack.desc).map (fun d => d.parameters.length) = some 2 := by decide +kernel
theorem zm_l_X11_220 : Cond.methodLink RX11 220 yX11_looksBack ∈ zt_G := zt_m 932 (by decide +kernel) (by decide +kernel)
theorem zm_c_X11_tableG : Cond.code yX11_tableG cX11_tableG 1 (some .int) ∈ zt_G := zt_m 941 (by decide +kernel) (by decide +kernel)
theorem zm_s_X11_tableG : Cond.static yX11_tableG ∈ zt_G := zt_m 940 (by decide +kernel) (by decide +kernel)
theorem zm_d_X11_tableG : yX11_tableG.cls ≠ "java/lang/invoke/MethodHandle" ∧ yX11_tableG.cls ≠ "java/lang/invoke/VarHandle" ∧ (parseMethodDescriptor yX11_tableG.desc).map (fun d => d.parameters.length) = some 1 := by decide +kernel
theorem zm_l_X11_223 : Cond.methodLink RX11 223 yX11_tableG ∈ zt_G := zt_m 939 (by decide +kernel) (by decide +kernel)
theorem zm_f_X11_45 : Cond.fieldLink RX11 45 "VoiceFramesModel" "e" "[J" ∈ zt_G := zt_m 755 (by decide +kernel) (by decide +kernel)
theorem zm_k_X11_174 : Cond.constantLong RX11 174 (4096) ∈ zt_G := zt_m 946 (by decide +kernel) (by decide +kernel)
theorem zm_c_X11_tableH : Cond.code yX11_tableH cX11_tableH 2 (some .int) ∈ zt_G := zt_m 949 (by decide +kernel) (by decide +kernel)
theorem zm_s_X11_tableH : Cond.static yX11_tableH ∈ zt_G := zt_m 948 (by decide +kernel) (by decide +kernel)
theorem zm_d_X11_tableH : yX11_tableH.cls ≠ "java/lang/invoke/MethodHandle" ∧ yX11_tableH.cls ≠ "java/lang/invoke/VarHandle" ∧ (parseMethodDescriptor yX11_tableH.desc).map (fun d => d.parameters.length) = some 1 := by decide +kernel
theorem zm_l_X11_176 : Cond.methodLink RX11 176 yX11_tableH ∈ zt_G := zt_m 947 (by decide +kernel) (by decide +kernel)
theorem zm_f_X11_48 : Cond.fieldLink RX11 48 "VoiceFramesModel" "filtered" "[J" ∈ zt_G := zt_m 756 (by decide +kernel) (by decide +kernel)
theorem zm_c_X11_filters : Cond.code yX11_filters cX11_filters 6 none ∈ zt_G := zt_m 945 (by decide +kernel) (by decide +kernel)
theorem zm_i_X11_filters : Cond.instanceMethod yX11_filters ∈ zt_G := zt_m 944 (by decide +kernel) (by decide +kernel)
theorem zm_e_X11_filters : Cond.selects RX11 yX11_filters yX11_filters ∈ zt_G := zt_s 29 (by decide +kernel) (by decide +kernel)
theorem zm_d_X11_filters : yX11_filters.cls ≠ "java/lang/invoke/MethodHandle" ∧ yX11_filters.cls ≠ "java/lang/invoke/VarHandle" ∧ (parseMethodDescriptor yX11_filters.desc).map (fun d => d.parameters.length) = some 0 := by decide +kernel
theorem zm_l_X11_226 : Cond.methodLink RX11 226 yX11_filters ∈ zt_G := zt_m 942 (by decide +kernel) (by decide +kernel)
theorem zm_k_X11_185 : Cond.constantLong RX11 185 (-1) ∈ zt_G := zt_m 954 (by decide +kernel) (by decide +kernel)
theorem zm_f_X11_179 : Cond.fieldLink RX11 179 "VoiceFramesModel" "height" "I" ∈ zt_G := zt_m 763 (by decide +kernel) (by decide +kernel)
theorem zm_f_X11_182 : Cond.fieldLink RX11 182 "VoiceFramesModel" "fine" "I" ∈ zt_G := zt_m 764 (by decide +kernel) (by decide +kernel)
theorem zm_c_X11_ofHeight : Cond.code yX11_ofHeight cX11_ofHeight 2 none ∈ zt_G := zt_m 958 (by decide +kernel) (by decide +kernel)
theorem zm_i_X11_ofHeight : Cond.instanceMethod yX11_ofHeight ∈ zt_G := zt_m 957 (by decide +kernel) (by decide +kernel)
theorem zm_e_X11_ofHeight : Cond.selects RX11 yX11_ofHeight yX11_ofHeight ∈ zt_G := zt_s 31 (by decide +kernel) (by decide +kernel)
theorem zm_d_X11_ofHeight : yX11_ofHeight.cls ≠ "java/lang/invoke/MethodHandle" ∧ yX11_ofHeight.cls ≠ "java/lang/invoke/VarHandle" ∧ (parseMethodDescriptor yX11_ofHeight.desc).map (fun d => d.parameters.length) = some 1 := by decide +kernel
theorem zm_l_X11_187 : Cond.methodLink RX11 187 yX11_ofHeight ∈ zt_G := zt_m 955 (by decide +kernel) (by decide +kernel)
theorem zm_c_X11_tableR : Cond.code yX11_tableR cX11_tableR 1 (some .int) ∈ zt_G := zt_m 961 (by decide +kernel) (by decide +kernel)
theorem zm_s_X11_tableR : Cond.static yX11_tableR ∈ zt_G := zt_m 960 (by decide +kernel) (by decide +kernel)
theorem zm_d_X11_tableR : yX11_tableR.cls ≠ "java/lang/invoke/MethodHandle" ∧ yX11_tableR.cls ≠ "java/lang/invoke/VarHandle" ∧ (parseMethodDescriptor yX11_tableR.desc).map (fun d => d.parameters.length) = some 1 := by decide +kernel
theorem zm_l_X11_191 : Cond.methodLink RX11 191 yX11_tableR ∈ zt_G := zt_m 959 (by decide +kernel) (by decide +kernel)
theorem zm_c_X11_tellsPulses : Cond.code yX11_tellsPulses cX11_tellsPulses 10 none ∈ zt_G := zt_m 953 (by decide +kernel) (by decide +kernel)
theorem zm_i_X11_tellsPulses : Cond.instanceMethod yX11_tellsPulses ∈ zt_G := zt_m 952 (by decide +kernel) (by decide +kernel)
theorem zm_e_X11_tellsPulses : Cond.selects RX11 yX11_tellsPulses yX11_tellsPulses ∈ zt_G := zt_s 30 (by decide +kernel) (by decide +kernel)
theorem zm_d_X11_tellsPulses : yX11_tellsPulses.cls ≠ "java/lang/invoke/MethodHandle" ∧ yX11_tellsPulses.cls ≠ "java/lang/invoke/VarHandle" ∧ (parseMethodDescriptor yX11_tellsPulses.desc).map (fun d => d.parameters.length) = some 1 := by decide +kernel
theorem zm_l_X11_229 : Cond.methodLink RX11 229 yX11_tellsPulses ∈ zt_G := zt_m 950 (by decide +kernel) (by decide +kernel)
theorem zm_f_X11_66 : Cond.fieldLink RX11 66 "VoiceFramesModel" "made" "[J" ∈ zt_G := zt_m 762 (by decide +kernel) (by decide +kernel)
theorem zm_c_X11_tableF : Cond.code yX11_tableF cX11_tableF 1 (some .int) ∈ zt_G := zt_m 968 (by decide +kernel) (by decide +kernel)
theorem zm_s_X11_tableF : Cond.static yX11_tableF ∈ zt_G := zt_m 967 (by decide +kernel) (by decide +kernel)
theorem zm_d_X11_tableF : yX11_tableF.cls ≠ "java/lang/invoke/MethodHandle" ∧ yX11_tableF.cls ≠ "java/lang/invoke/VarHandle" ∧ (parseMethodDescriptor yX11_tableF.desc).map (fun d => d.parameters.length) = some 1 := by decide +kernel
theorem zm_l_X11_194 : Cond.methodLink RX11 194 yX11_tableF ∈ zt_G := zt_m 966 (by decide +kernel) (by decide +kernel)
theorem zm_k_X11_197 : Cond.constantLong RX11 197 (7) ∈ zt_G := zt_m 969 (by decide +kernel) (by decide +kernel)
theorem zm_c_X11_makes : Cond.code yX11_makes cX11_makes 7 none ∈ zt_G := zt_m 965 (by decide +kernel) (by decide +kernel)
theorem zm_i_X11_makes : Cond.instanceMethod yX11_makes ∈ zt_G := zt_m 964 (by decide +kernel) (by decide +kernel)
theorem zm_e_X11_makes : Cond.selects RX11 yX11_makes yX11_makes ∈ zt_G := zt_s 32 (by decide +kernel) (by decide +kernel)
theorem zm_d_X11_makes : yX11_makes.cls ≠ "java/lang/invoke/MethodHandle" ∧ yX11_makes.cls ≠ "java/lang/invoke/VarHandle" ∧ (parseMethodDescriptor yX11_makes.desc).map (fun d => d.parameters.length) = some 1 := by decide +kernel
theorem zm_l_X11_232 : Cond.methodLink RX11 232 yX11_makes ∈ zt_G := zt_m 962 (by decide +kernel) (by decide +kernel)
theorem zm_c_X11_settles : Cond.code yX11_settles cX11_settles 3 none ∈ zt_G := zt_m 973 (by decide +kernel) (by decide +kernel)
theorem zm_i_X11_settles : Cond.instanceMethod yX11_settles ∈ zt_G := zt_m 972 (by decide +kernel) (by decide +kernel)
theorem zm_e_X11_settles : Cond.selects RX11 yX11_settles yX11_settles ∈ zt_G := zt_s 33 (by decide +kernel) (by decide +kernel)
theorem zm_d_X11_settles : yX11_settles.cls ≠ "java/lang/invoke/MethodHandle" ∧ yX11_settles.cls ≠ "java/lang/invoke/VarHandle" ∧ (parseMethodDescriptor yX11_settles.desc).map (fun d => d.parameters.length) = some 1 := by decide +kernel
theorem zm_l_X11_235 : Cond.methodLink RX11 235 yX11_settles ∈ zt_G := zt_m 970 (by decide +kernel) (by decide +kernel)
theorem zm_f_X11_238 : Cond.fieldLink RX11 238 "VoiceFramesModel" "encoded" "I" ∈ zt_G := zt_m 742 (by decide +kernel) (by decide +kernel)
theorem zm_f_X11_13 : Cond.fieldLink RX11 13 "VoiceFramesModel" "hand" "[I" ∈ zt_G := zt_m 739 (by decide +kernel) (by decide +kernel)
theorem zm_f_X11_241 : Cond.fieldLink RX11 241 "VoiceFramesModel" "atHand" "I" ∈ zt_G := zt_m 738 (by decide +kernel) (by decide +kernel)
theorem zm_k_X11_244 : Cond.constantLong RX11 244 (255) ∈ zt_G := zt_m 982 (by decide +kernel) (by decide +kernel)
theorem zm_c_X11_bits : Cond.code yX11_bits cX11_bits 2 (some .int) ∈ zt_G := zt_m 989 (by decide +kernel) (by decide +kernel)
theorem zm_s_X11_bits : Cond.static yX11_bits ∈ zt_G := zt_m 988 (by decide +kernel) (by decide +kernel)
theorem zm_d_X11_bits : yX11_bits.cls ≠ "java/lang/invoke/MethodHandle" ∧ yX11_bits.cls ≠ "java/lang/invoke/VarHandle" ∧ (parseMethodDescriptor yX11_bits.desc).map (fun d => d.parameters.length) = some 1 := by decide +kernel
theorem zm_l_X11_246 : Cond.methodLink RX11 246 yX11_bits ∈ zt_G := zt_m 987 (by decide +kernel) (by decide +kernel)
theorem zm_f_X11_35 : Cond.fieldLink RX11 35 "VoiceFramesModel" "back" "I" ∈ zt_G := zt_m 751 (by decide +kernel) (by decide +kernel)
theorem zm_f_X11_29 : Cond.fieldLink RX11 29 "VoiceFramesModel" "v" "[J" ∈ zt_G := zt_m 749 (by decide +kernel) (by decide +kernel)
theorem zm_f_X11_249 : Cond.fieldLink RX11 249 "VoiceFramesModel" "last" "J" ∈ zt_G := zt_m 752 (by decide +kernel) (by decide +kernel)
theorem zm_k_X11_252 : Cond.constantLong RX11 252 (28180) ∈ zt_G := zt_m 998 (by decide +kernel) (by decide +kernel)
theorem zm_f_X11_20 : Cond.fieldLink RX11 20 "VoiceFramesModel" "out" "[I" ∈ zt_G := zt_m 741 (by decide +kernel) (by decide +kernel)
theorem zm_f_X11_254 : Cond.fieldLink RX11 254 "VoiceFramesModel" "decoded" "I" ∈ zt_G := zt_m 743 (by decide +kernel) (by decide +kernel)
theorem zm_c_X11_clears : Cond.code yX11_clears cX11_clears 3 none ∈ zt_G := zt_m 1010 (by decide +kernel) (by decide +kernel)
theorem zm_i_X11_clears : Cond.instanceMethod yX11_clears ∈ zt_G := zt_m 1009 (by decide +kernel) (by decide +kernel)
theorem zm_e_X11_clears : Cond.selects RX11 yX11_clears yX11_clears ∈ zt_G := zt_s 34 (by decide +kernel) (by decide +kernel)
theorem zm_d_X11_clears : yX11_clears.cls ≠ "java/lang/invoke/MethodHandle" ∧ yX11_clears.cls ≠ "java/lang/invoke/VarHandle" ∧ (parseMethodDescriptor yX11_clears.desc).map (fun d => d.parameters.length) = some 1 := by decide +kernel
theorem zm_l_X11_257 : Cond.methodLink RX11 257 yX11_clears ∈ zt_G := zt_m 1007 (by decide +kernel) (by decide +kernel)
theorem zm_c_X10_put : Cond.code yX10_put cX10_put 2 (some .int) ∈ zt_G := zt_m 399 (by decide +kernel) (by decide +kernel)
theorem zm_i_X10_put : Cond.instanceMethod yX10_put ∈ zt_G := zt_m 397 (by decide +kernel) (by decide +kernel)
theorem zm_e_X10_put : Cond.selects RX10 yX10_put yX10_put ∈ zt_G := zt_m 398 (by decide +kernel) (by decide +kernel)
theorem zm_d_X10_put : yX10_put.cls ≠ "java/lang/invoke/MethodHandle" ∧ yX10_put.cls ≠ "java/lang/invoke/VarHandle" ∧ (parseMethodDescriptor yX10_put.desc).map (fun d => d.parameters.length) = some 1 := by decide +kernel
theorem zm_c_L_put : Cond.codeWith yL_put cL_put 4 (some .int) [(0, 9, 12, 13), (0, 9, 15, 15)] ∈ zt_G := zt_m 393 (by decide +kernel) (by decide +kernel)
theorem zm_s_L_put : Cond.static yL_put ∈ zt_G := zt_m 392 (by decide +kernel) (by decide +kernel)
theorem zm_0_L : Cond.initialized RL ∈ zt_G := zt_m 0 (by decide +kernel) (by decide +kernel)
theorem zm_d_L_put : yL_put.cls ≠ "java/lang/invoke/MethodHandle" ∧ yL_put.cls ≠ "java/lang/invoke/VarHandle" ∧ (parseMethodDescriptor yL_put.desc).map (fun d => d.parameters.length) = some 3 := by decide +kernel
theorem zm_l_L_7 : Cond.methodLink RL 7 yX10_put ∈ zt_G := zt_m 396 (by decide +kernel) (by decide +kernel)
theorem zm_c_X10_fill : Cond.code yX10_fill cX10_fill 5 (some .int) ∈ zt_G := zt_m 489 (by decide +kernel) (by decide +kernel)
theorem zm_i_X10_fill : Cond.instanceMethod yX10_fill ∈ zt_G := zt_m 487 (by decide +kernel) (by decide +kernel)
theorem zm_e_X10_fill : Cond.selects RX10 yX10_fill yX10_fill ∈ zt_G := zt_m 488 (by decide +kernel) (by decide +kernel)
theorem zm_d_X10_fill : yX10_fill.cls ≠ "java/lang/invoke/MethodHandle" ∧ yX10_fill.cls ≠ "java/lang/invoke/VarHandle" ∧ (parseMethodDescriptor yX10_fill.desc).map (fun d => d.parameters.length) = some 3 := by decide +kernel
theorem zm_c_L_fill : Cond.codeWith yL_fill cL_fill 6 (some .int) [(0, 12, 15, 13), (0, 12, 19, 15)] ∈ zt_G := zt_m 485 (by decide +kernel) (by decide +kernel)
theorem zm_s_L_fill : Cond.static yL_fill ∈ zt_G := zt_m 484 (by decide +kernel) (by decide +kernel)
theorem zm_d_L_fill : yL_fill.cls ≠ "java/lang/invoke/MethodHandle" ∧ yL_fill.cls ≠ "java/lang/invoke/VarHandle" ∧ (parseMethodDescriptor yL_fill.desc).map (fun d => d.parameters.length) = some 5 := by decide +kernel
theorem zm_l_L_17 : Cond.methodLink RL 17 yX10_fill ∈ zt_G := zt_m 486 (by decide +kernel) (by decide +kernel)
theorem zm_c_X10_encode : Cond.code yX10_encode cX10_encode 1 (some .int) ∈ zt_G := zt_m 498 (by decide +kernel) (by decide +kernel)
theorem zm_i_X10_encode : Cond.instanceMethod yX10_encode ∈ zt_G := zt_m 496 (by decide +kernel) (by decide +kernel)
theorem zm_e_X10_encode : Cond.selects RX10 yX10_encode yX10_encode ∈ zt_G := zt_m 497 (by decide +kernel) (by decide +kernel)
theorem zm_d_X10_encode : yX10_encode.cls ≠ "java/lang/invoke/MethodHandle" ∧ yX10_encode.cls ≠ "java/lang/invoke/VarHandle" ∧ (parseMethodDescriptor yX10_encode.desc).map (fun d => d.parameters.length) = some 0 := by decide +kernel
theorem zm_c_L_encode : Cond.codeWith yL_encode cL_encode 3 (some .int) [(0, 8, 11, 15)] ∈ zt_G := zt_m 494 (by decide +kernel) (by decide +kernel)
theorem zm_s_L_encode : Cond.static yL_encode ∈ zt_G := zt_m 493 (by decide +kernel) (by decide +kernel)
theorem zm_d_L_encode : yL_encode.cls ≠ "java/lang/invoke/MethodHandle" ∧ yL_encode.cls ≠ "java/lang/invoke/VarHandle" ∧ (parseMethodDescriptor yL_encode.desc).map (fun d => d.parameters.length) = some 2 := by decide +kernel
theorem zm_l_L_21 : Cond.methodLink RL 21 yX10_encode ∈ zt_G := zt_m 495 (by decide +kernel) (by decide +kernel)
theorem zm_c_X10_parameter : Cond.code yX10_parameter cX10_parameter 2 (some .int) ∈ zt_G := zt_m 653 (by decide +kernel) (by decide +kernel)
theorem zm_i_X10_parameter : Cond.instanceMethod yX10_parameter ∈ zt_G := zt_m 651 (by decide +kernel) (by decide +kernel)
theorem zm_e_X10_parameter : Cond.selects RX10 yX10_parameter yX10_parameter ∈ zt_G := zt_m 652 (by decide +kernel) (by decide +kernel)
theorem zm_d_X10_parameter : yX10_parameter.cls ≠ "java/lang/invoke/MethodHandle" ∧ yX10_parameter.cls ≠ "java/lang/invoke/VarHandle" ∧ (parseMethodDescriptor yX10_parameter.desc).map (fun d => d.parameters.length) = some 1 := by decide +kernel
theorem zm_c_L_parameter : Cond.codeWith yL_parameter cL_parameter 4 (some .int) [(0, 9, 12, 13)] ∈ zt_G := zt_m 649 (by decide +kernel) (by decide +kernel)
theorem zm_s_L_parameter : Cond.static yL_parameter ∈ zt_G := zt_m 648 (by decide +kernel) (by decide +kernel)
theorem zm_d_L_parameter : yL_parameter.cls ≠ "java/lang/invoke/MethodHandle" ∧ yL_parameter.cls ≠ "java/lang/invoke/VarHandle" ∧ (parseMethodDescriptor yL_parameter.desc).map (fun d => d.parameters.length) = some 3 := by decide +kernel
theorem zm_l_L_25 : Cond.methodLink RL 25 yX10_parameter ∈ zt_G := zt_m 650 (by decide +kernel) (by decide +kernel)
theorem zm_c_X10_feed : Cond.code yX10_feed cX10_feed 5 (some .int) ∈ zt_G := zt_m 661 (by decide +kernel) (by decide +kernel)
theorem zm_i_X10_feed : Cond.instanceMethod yX10_feed ∈ zt_G := zt_m 659 (by decide +kernel) (by decide +kernel)
theorem zm_e_X10_feed : Cond.selects RX10 yX10_feed yX10_feed ∈ zt_G := zt_m 660 (by decide +kernel) (by decide +kernel)
theorem zm_d_X10_feed : yX10_feed.cls ≠ "java/lang/invoke/MethodHandle" ∧ yX10_feed.cls ≠ "java/lang/invoke/VarHandle" ∧ (parseMethodDescriptor yX10_feed.desc).map (fun d => d.parameters.length) = some 2 := by decide +kernel
theorem zm_c_L_feed : Cond.codeWith yL_feed cL_feed 6 (some .int) [(0, 11, 14, 13), (0, 11, 18, 15)] ∈ zt_G := zt_m 657 (by decide +kernel) (by decide +kernel)
theorem zm_s_L_feed : Cond.static yL_feed ∈ zt_G := zt_m 656 (by decide +kernel) (by decide +kernel)
theorem zm_d_L_feed : yL_feed.cls ≠ "java/lang/invoke/MethodHandle" ∧ yL_feed.cls ≠ "java/lang/invoke/VarHandle" ∧ (parseMethodDescriptor yL_feed.desc).map (fun d => d.parameters.length) = some 4 := by decide +kernel
theorem zm_l_L_28 : Cond.methodLink RL 28 yX10_feed ∈ zt_G := zt_m 658 (by decide +kernel) (by decide +kernel)
theorem zm_c_X10_sample : Cond.code yX10_sample cX10_sample 2 (some .int) ∈ zt_G := zt_m 670 (by decide +kernel) (by decide +kernel)
theorem zm_i_X10_sample : Cond.instanceMethod yX10_sample ∈ zt_G := zt_m 668 (by decide +kernel) (by decide +kernel)
theorem zm_e_X10_sample : Cond.selects RX10 yX10_sample yX10_sample ∈ zt_G := zt_m 669 (by decide +kernel) (by decide +kernel)
theorem zm_d_X10_sample : yX10_sample.cls ≠ "java/lang/invoke/MethodHandle" ∧ yX10_sample.cls ≠ "java/lang/invoke/VarHandle" ∧ (parseMethodDescriptor yX10_sample.desc).map (fun d => d.parameters.length) = some 1 := by decide +kernel
theorem zm_c_L_sample : Cond.codeWith yL_sample cL_sample 4 (some .int) [(0, 9, 12, 13)] ∈ zt_G := zt_m 666 (by decide +kernel) (by decide +kernel)
theorem zm_s_L_sample : Cond.static yL_sample ∈ zt_G := zt_m 665 (by decide +kernel) (by decide +kernel)
theorem zm_d_L_sample : yL_sample.cls ≠ "java/lang/invoke/MethodHandle" ∧ yL_sample.cls ≠ "java/lang/invoke/VarHandle" ∧ (parseMethodDescriptor yL_sample.desc).map (fun d => d.parameters.length) = some 3 := by decide +kernel
theorem zm_l_L_32 : Cond.methodLink RL 32 yX10_sample ∈ zt_G := zt_m 667 (by decide +kernel) (by decide +kernel)
theorem zm_c_X10_reset : Cond.code yX10_reset cX10_reset 2 none ∈ zt_G := zt_m 678 (by decide +kernel) (by decide +kernel)
theorem zm_i_X10_reset : Cond.instanceMethod yX10_reset ∈ zt_G := zt_m 676 (by decide +kernel) (by decide +kernel)
theorem zm_e_X10_reset : Cond.selects RX10 yX10_reset yX10_reset ∈ zt_G := zt_m 677 (by decide +kernel) (by decide +kernel)
theorem zm_d_X10_reset : yX10_reset.cls ≠ "java/lang/invoke/MethodHandle" ∧ yX10_reset.cls ≠ "java/lang/invoke/VarHandle" ∧ (parseMethodDescriptor yX10_reset.desc).map (fun d => d.parameters.length) = some 1 := by decide +kernel
theorem zm_c_L_reset : Cond.codeWith yL_reset cL_reset 3 (some .int) [(0, 5, 8, 13)] ∈ zt_G := zt_m 674 (by decide +kernel) (by decide +kernel)
theorem zm_s_L_reset : Cond.static yL_reset ∈ zt_G := zt_m 673 (by decide +kernel) (by decide +kernel)
theorem zm_d_L_reset : yL_reset.cls ≠ "java/lang/invoke/MethodHandle" ∧ yL_reset.cls ≠ "java/lang/invoke/VarHandle" ∧ (parseMethodDescriptor yL_reset.desc).map (fun d => d.parameters.length) = some 2 := by decide +kernel
theorem zm_l_L_35 : Cond.methodLink RL 35 yX10_reset ∈ zt_G := zt_m 675 (by decide +kernel) (by decide +kernel)
theorem zm_c_X10_state : Cond.code yX10_state cX10_state 3 (some .int) ∈ zt_G := zt_m 712 (by decide +kernel) (by decide +kernel)
theorem zm_i_X10_state : Cond.instanceMethod yX10_state ∈ zt_G := zt_m 710 (by decide +kernel) (by decide +kernel)
theorem zm_e_X10_state : Cond.selects RX10 yX10_state yX10_state ∈ zt_G := zt_m 711 (by decide +kernel) (by decide +kernel)
theorem zm_d_X10_state : yX10_state.cls ≠ "java/lang/invoke/MethodHandle" ∧ yX10_state.cls ≠ "java/lang/invoke/VarHandle" ∧ (parseMethodDescriptor yX10_state.desc).map (fun d => d.parameters.length) = some 2 := by decide +kernel
theorem zm_c_L_state : Cond.codeWith yL_state cL_state 5 (some .int) [(0, 10, 13, 13)] ∈ zt_G := zt_m 708 (by decide +kernel) (by decide +kernel)
theorem zm_s_L_state : Cond.static yL_state ∈ zt_G := zt_m 707 (by decide +kernel) (by decide +kernel)
theorem zm_d_L_state : yL_state.cls ≠ "java/lang/invoke/MethodHandle" ∧ yL_state.cls ≠ "java/lang/invoke/VarHandle" ∧ (parseMethodDescriptor yL_state.desc).map (fun d => d.parameters.length) = some 4 := by decide +kernel
theorem zm_l_L_39 : Cond.methodLink RL 39 yX10_state ∈ zt_G := zt_m 709 (by decide +kernel) (by decide +kernel)
theorem zm_c_X10_about : Cond.code yX10_about cX10_about 2 (some .int) ∈ zt_G := zt_m 727 (by decide +kernel) (by decide +kernel)
theorem zm_i_X10_about : Cond.instanceMethod yX10_about ∈ zt_G := zt_m 725 (by decide +kernel) (by decide +kernel)
theorem zm_e_X10_about : Cond.selects RX10 yX10_about yX10_about ∈ zt_G := zt_m 726 (by decide +kernel) (by decide +kernel)
theorem zm_d_X10_about : yX10_about.cls ≠ "java/lang/invoke/MethodHandle" ∧ yX10_about.cls ≠ "java/lang/invoke/VarHandle" ∧ (parseMethodDescriptor yX10_about.desc).map (fun d => d.parameters.length) = some 1 := by decide +kernel
theorem zm_c_L_about : Cond.codeWith yL_about cL_about 4 (some .int) [(0, 9, 12, 13)] ∈ zt_G := zt_m 723 (by decide +kernel) (by decide +kernel)
theorem zm_s_L_about : Cond.static yL_about ∈ zt_G := zt_m 722 (by decide +kernel) (by decide +kernel)
theorem zm_d_L_about : yL_about.cls ≠ "java/lang/invoke/MethodHandle" ∧ yL_about.cls ≠ "java/lang/invoke/VarHandle" ∧ (parseMethodDescriptor yL_about.desc).map (fun d => d.parameters.length) = some 3 := by decide +kernel
theorem zm_l_L_43 : Cond.methodLink RL 43 yX10_about ∈ zt_G := zt_m 724 (by decide +kernel) (by decide +kernel)
abbrev zr_m_X4_cut : Room := { frames := 0, cells := 0, slots := 0, locals := 0 }
abbrev zr_m_X4_rounded : Room := { frames := 1, cells := 0, slots := 0, locals := 20 }
abbrev zr_m_X3_nearestInt : Room := { frames := 0, cells := 0, slots := 0, locals := 0 }
abbrev zr_m_X3_next : Room := { frames := 2, cells := 0, slots := 0, locals := 41 }
abbrev zr_m_X3_smooth : Room := { frames := 3, cells := 0, slots := 0, locals := 69 }
abbrev zr_m_X4_size : Room := { frames := 1, cells := 0, slots := 0, locals := 20 }
abbrev zr_m_X4_greatestSize : Room := { frames := 2, cells := 0, slots := 0, locals := 40 }
abbrev zr_m_X4_norm : Room := { frames := 0, cells := 0, slots := 0, locals := 0 }
abbrev zr_m_X6_lower : Room := { frames := 3, cells := 0, slots := 0, locals := 66 }
abbrev zr_m_X6_correlate : Room := { frames := 0, cells := 0, slots := 0, locals := 0 }
abbrev zr_m_J7_fill_53178 : Room := { frames := 0, cells := 0, slots := 0, locals := 0 }
abbrev zr_m_X6_reflection : Room := { frames := 2, cells := 0, slots := 0, locals := 40 }
abbrev zr_m_X6_fold : Room := { frames := 2, cells := 0, slots := 0, locals := 41 }
abbrev zr_m_X6_reflect : Room := { frames := 3, cells := 0, slots := 0, locals := 64 }
abbrev zr_m_X4_withSignOf : Room := { frames := 0, cells := 0, slots := 0, locals := 0 }
abbrev zr_m_X6_bent : Room := { frames := 2, cells := 0, slots := 0, locals := 40 }
abbrev zr_m_X4_floored : Room := { frames := 1, cells := 0, slots := 0, locals := 20 }
abbrev zr_m_X6_filterNumber : Room := { frames := 2, cells := 0, slots := 0, locals := 41 }
abbrev zr_m_X6_predict : Room := { frames := 4, cells := 0, slots := 0, locals := 90 }
abbrev zr_m_X2_learn : Room := { frames := 2, cells := 0, slots := 0, locals := 41 }
abbrev zr_m_X2_between : Room := { frames := 1, cells := 0, slots := 0, locals := 20 }
abbrev zr_m_X2_straight : Room := { frames := 2, cells := 0, slots := 0, locals := 40 }
abbrev zr_m_X2_shape : Room := { frames := 3, cells := 0, slots := 0, locals := 62 }
abbrev zr_m_X1_left : Room := { frames := 2, cells := 0, slots := 0, locals := 41 }
abbrev zr_m_X1_takeAway : Room := { frames := 4, cells := 0, slots := 0, locals := 84 }
abbrev zr_m_X5_from : Room := { frames := 0, cells := 0, slots := 0, locals := 0 }
abbrev zr_m_X8_lower : Room := { frames := 3, cells := 0, slots := 0, locals := 66 }
abbrev zr_m_X8_likeness : Room := { frames := 0, cells := 0, slots := 0, locals := 0 }
abbrev zr_m_X8_power : Room := { frames := 0, cells := 0, slots := 0, locals := 0 }
abbrev zr_m_X8_gainOf : Room := { frames := 2, cells := 0, slots := 0, locals := 41 }
abbrev zr_m_X8_find : Room := { frames := 4, cells := 0, slots := 0, locals := 92 }
abbrev zr_m_X5_look : Room := { frames := 2, cells := 0, slots := 0, locals := 41 }
abbrev zr_m_X9_filtered : Room := { frames := 1, cells := 0, slots := 0, locals := 20 }
abbrev zr_m_X9_loudestGrid : Room := { frames := 0, cells := 0, slots := 0, locals := 0 }
abbrev zr_m_X9_heightOf : Room := { frames := 0, cells := 0, slots := 0, locals := 0 }
abbrev zr_m_X9_thin : Room := { frames := 3, cells := 0, slots := 0, locals := 66 }
abbrev zr_m_X7_scaleBy : Room := { frames := 0, cells := 0, slots := 0, locals := 0 }
abbrev zr_m_X7_told : Room := { frames := 2, cells := 0, slots := 0, locals := 41 }
abbrev zr_m_X7_made : Room := { frames := 2, cells := 0, slots := 0, locals := 41 }
abbrev zr_m_X7_makeAgain : Room := { frames := 3, cells := 0, slots := 0, locals := 64 }
abbrev zr_m_X5_add : Room := { frames := 1, cells := 0, slots := 0, locals := 20 }
abbrev zr_m_X1_describePart : Room := { frames := 5, cells := 0, slots := 0, locals := 120 }
abbrev zr_m_X5_endFrame : Room := { frames := 1, cells := 0, slots := 0, locals := 60 }
abbrev zr_m_X1_describe : Room := { frames := 6, cells := 0, slots := 0, locals := 144 }
abbrev zr_m_X3_forget : Room := { frames := 0, cells := 0, slots := 0, locals := 0 }
abbrev zr_m_X2_forget : Room := { frames := 1, cells := 0, slots := 0, locals := 23 }
abbrev zr_m_X5_forget : Room := { frames := 1, cells := 0, slots := 0, locals := 23 }
abbrev zr_m_X1_forget : Room := { frames := 2, cells := 0, slots := 0, locals := 43 }
abbrev zr_m_X0_rebuildPart : Room := { frames := 4, cells := 0, slots := 0, locals := 88 }
abbrev zr_m_X0_spoken : Room := { frames := 2, cells := 0, slots := 0, locals := 41 }
abbrev zr_m_X0_giveBack : Room := { frames := 4, cells := 0, slots := 0, locals := 84 }
abbrev zr_m_X0_speak : Room := { frames := 5, cells := 0, slots := 0, locals := 112 }
abbrev zr_m_X0_forget : Room := { frames := 2, cells := 0, slots := 0, locals := 43 }
abbrev zr_m_X10_bitsOf : Room := { frames := 0, cells := 0, slots := 0, locals := 0 }
abbrev zr_m_X10_pack : Room := { frames := 1, cells := 0, slots := 0, locals := 23 }
abbrev zr_m_X10_unpack : Room := { frames := 1, cells := 0, slots := 0, locals := 21 }
abbrev zr_m_X10_stateCells : Room := { frames := 0, cells := 0, slots := 0, locals := 0 }
abbrev zr_m_X3_goingOn : Room := { frames := 0, cells := 0, slots := 0, locals := 0 }
abbrev zr_m_X10_take : Room := { frames := 2, cells := 0, slots := 0, locals := 47 }
abbrev zr_m_X10_decode : Room := { frames := 6, cells := 0, slots := 0, locals := 135 }
abbrev zr_m_X10_hand : Room := { frames := 0, cells := 0, slots := 0, locals := 0 }
abbrev zr_m_X10_put : Room := { frames := 6, cells := 1, slots := 6, locals := 90 }
abbrev zr_m_X10_fill : Room := { frames := 6, cells := 1, slots := 6, locals := 90 }
abbrev zr_m_X10_encode : Room := { frames := 7, cells := 1, slots := 6, locals := 167 }
abbrev zr_m_X10_parameter : Room := { frames := 6, cells := 1, slots := 6, locals := 90 }
abbrev zr_m_X10_feed : Room := { frames := 6, cells := 1, slots := 6, locals := 90 }
abbrev zr_m_X10_sample : Room := { frames := 6, cells := 1, slots := 6, locals := 90 }
abbrev zr_m_X10_reset : Room := { frames := 6, cells := 1, slots := 6, locals := 90 }
abbrev zr_m_X10_state : Room := { frames := 6, cells := 1, slots := 6, locals := 90 }
abbrev zr_m_X10_about : Room := { frames := 6, cells := 1, slots := 6, locals := 90 }
abbrev zr_m_X11_thrown : Room := { frames := 0, cells := 0, slots := 0, locals := 0 }
abbrev zr_m_X11_refuses : Room := { frames := 0, cells := 0, slots := 0, locals := 0 }
abbrev zr_m_X11_put : Room := { frames := 1, cells := 0, slots := 0, locals := 21 }
abbrev zr_m_X11_fill : Room := { frames := 1, cells := 0, slots := 0, locals := 21 }
abbrev zr_m_X11_cut : Room := { frames := 0, cells := 0, slots := 0, locals := 0 }
abbrev zr_m_X11_rounded : Room := { frames := 1, cells := 0, slots := 0, locals := 21 }
abbrev zr_m_X11_wide : Room := { frames := 0, cells := 0, slots := 0, locals := 0 }
abbrev zr_m_X11_prepares : Room := { frames := 2, cells := 0, slots := 0, locals := 44 }
abbrev zr_m_X11_size : Room := { frames := 1, cells := 0, slots := 0, locals := 21 }
abbrev zr_m_X11_greatest : Room := { frames := 2, cells := 0, slots := 0, locals := 42 }
abbrev zr_m_X11_norm : Room := { frames := 0, cells := 0, slots := 0, locals := 0 }
abbrev zr_m_X11_correlates : Room := { frames := 3, cells := 0, slots := 0, locals := 67 }
abbrev zr_m_X11_reflects : Room := { frames := 2, cells := 0, slots := 0, locals := 44 }
abbrev zr_m_X11_tableA : Room := { frames := 0, cells := 0, slots := 0, locals := 0 }
abbrev zr_m_X11_lower : Room := { frames := 1, cells := 0, slots := 0, locals := 21 }
abbrev zr_m_X11_tableB : Room := { frames := 0, cells := 0, slots := 0, locals := 0 }
abbrev zr_m_X11_least : Room := { frames := 0, cells := 0, slots := 0, locals := 0 }
abbrev zr_m_X11_tellsFilter : Room := { frames := 2, cells := 0, slots := 0, locals := 44 }
abbrev zr_m_X11_tableC : Room := { frames := 0, cells := 0, slots := 0, locals := 0 }
abbrev zr_m_X11_makesG : Room := { frames := 2, cells := 0, slots := 0, locals := 44 }
abbrev zr_m_X11_makesR : Room := { frames := 2, cells := 0, slots := 0, locals := 42 }
abbrev zr_m_X11_leaves : Room := { frames := 3, cells := 0, slots := 0, locals := 71 }
abbrev zr_m_X11_keepsG : Room := { frames := 0, cells := 0, slots := 0, locals := 0 }
abbrev zr_m_X11_tableD : Room := { frames := 0, cells := 0, slots := 0, locals := 0 }
abbrev zr_m_X11_looksBack : Room := { frames := 3, cells := 0, slots := 0, locals := 67 }
abbrev zr_m_X11_tableG : Room := { frames := 0, cells := 0, slots := 0, locals := 0 }
abbrev zr_m_X11_tableH : Room := { frames := 0, cells := 0, slots := 0, locals := 0 }
abbrev zr_m_X11_filters : Room := { frames := 1, cells := 0, slots := 0, locals := 21 }
abbrev zr_m_X11_ofHeight : Room := { frames := 0, cells := 0, slots := 0, locals := 0 }
abbrev zr_m_X11_tableR : Room := { frames := 0, cells := 0, slots := 0, locals := 0 }
abbrev zr_m_X11_tellsPulses : Room := { frames := 2, cells := 0, slots := 0, locals := 44 }
abbrev zr_m_X11_tableF : Room := { frames := 0, cells := 0, slots := 0, locals := 0 }
abbrev zr_m_X11_makes : Room := { frames := 2, cells := 0, slots := 0, locals := 44 }
abbrev zr_m_X11_settles : Room := { frames := 0, cells := 0, slots := 0, locals := 0 }
abbrev zr_m_X11_encode : Room := { frames := 4, cells := 0, slots := 0, locals := 101 }
abbrev zr_m_X11_parameter : Room := { frames := 1, cells := 0, slots := 0, locals := 21 }
abbrev zr_m_X11_feed : Room := { frames := 1, cells := 0, slots := 0, locals := 21 }
abbrev zr_m_X11_bits : Room := { frames := 0, cells := 0, slots := 0, locals := 0 }
abbrev zr_m_X11_take : Room := { frames := 1, cells := 0, slots := 0, locals := 21 }
abbrev zr_m_X11_hand : Room := { frames := 0, cells := 0, slots := 0, locals := 0 }
abbrev zr_m_X11_decode : Room := { frames := 3, cells := 0, slots := 0, locals := 71 }
abbrev zr_m_X11_sample : Room := { frames := 1, cells := 0, slots := 0, locals := 21 }
abbrev zr_m_X11_clears : Room := { frames := 0, cells := 0, slots := 0, locals := 0 }
abbrev zr_m_X11_reset : Room := { frames := 1, cells := 0, slots := 0, locals := 22 }
abbrev zr_m_X11_state : Room := { frames := 1, cells := 0, slots := 0, locals := 21 }
abbrev zr_m_X11_about : Room := { frames := 1, cells := 0, slots := 0, locals := 21 }
abbrev zr_m_L_put : Room := { frames := 7, cells := 1, slots := 6, locals := 111 }
abbrev zr_m_L_fill : Room := { frames := 7, cells := 1, slots := 6, locals := 114 }
abbrev zr_m_L_encode : Room := { frames := 8, cells := 1, slots := 6, locals := 187 }
abbrev zr_m_L_parameter : Room := { frames := 7, cells := 1, slots := 6, locals := 111 }
abbrev zr_m_L_feed : Room := { frames := 7, cells := 1, slots := 6, locals := 114 }
abbrev zr_m_L_sample : Room := { frames := 7, cells := 1, slots := 6, locals := 111 }
abbrev zr_m_L_reset : Room := { frames := 7, cells := 1, slots := 6, locals := 111 }
abbrev zr_m_L_state : Room := { frames := 7, cells := 1, slots := 6, locals := 112 }
abbrev zr_m_L_about : Room := { frames := 7, cells := 1, slots := 6, locals := 111 }
