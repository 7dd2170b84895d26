set_option maxHeartbeats 4000000 in
set_option maxRecDepth 100000 in
theorem zm_X4_cut (l : Launch) (G : zg_T) (S : zs_T) (a1 : Int32) (r : Int32) (h : zf_X4_cut a1 = r) : Met l yX4_cut (Cond.code yX4_cut cX4_cut 1 (some .int) :: zt_G) zr_m_X4_cut (va_Pc [.int a1] (zg_P G S)) (zg_Q G (some (.int r)) S) 0 0 (zg_A G) := by
  refine zx_met (by decide +kernel) (Nat.le_of_ble_eq_true rfl) (lv := [(0, .int a1)]) rfl ?_
  intro p e s m below meth c C hr w ls hl
  replace C : zx_C p s m _ meth c G RX4 cX4_cut 1 := C
  unfold zf_X4_cut at h
  refine lv_iload_n C.1 C.2.1 dX4_cut_0 rfl (lv_at hl 0 rfl) ?_
  refine lv_sipush (v := -32768) C.1 C.2.1 dX4_cut_1 (by decide) ?_
  refine zr_ic_ge (tgt := 13) C dX4_cut_4 (by decide) h (fun h => ?_) (fun h => ?_)
  · refine lv_iload_n C.1 C.2.1 dX4_cut_13 rfl (lv_at hl 0 rfl) ?_
    refine lv_sipush (v := 32767) C.1 C.2.1 dX4_cut_14 (by decide) ?_
    refine zr_ic_le (tgt := 26) C dX4_cut_17 (by decide) h (fun h => ?_) (fun h => ?_)
    · refine lv_iload_n C.1 C.2.1 dX4_cut_26 rfl (lv_at hl 0 rfl) ?_
      exact zr_reti C w hr dX4_cut_27 h rfl
    · refine lv_sipush (v := 32767) C.1 C.2.1 dX4_cut_20 (by decide) ?_
      refine lv_goto (tgt := 27) C.1 C.2.1 dX4_cut_23 (by decide) ?_
      exact zr_reti C w hr dX4_cut_27 h rfl
  · refine lv_sipush (v := -32768) C.1 C.2.1 dX4_cut_7 (by decide) ?_
    refine lv_goto (tgt := 27) C.1 C.2.1 dX4_cut_10 (by decide) ?_
    exact zr_reti C w hr dX4_cut_27 h rfl
set_option maxHeartbeats 4000000 in
set_option maxRecDepth 100000 in
theorem zm_X4_rounded (l : Launch) (G : zg_T) (S : zs_T) (a1 : Int32) (a2 : Int32) (r : Int32) (h : zf_X4_rounded a1 a2 = r) : Met l yX4_rounded (Cond.code yX4_rounded cX4_rounded 2 (some .int) :: zt_G) zr_m_X4_rounded (va_Pc [.int a1, .int a2] (zg_P G S)) (zg_Q G (some (.int r)) S) 0 0 (zg_A G) := by
  refine zx_met (by decide +kernel) (Nat.le_of_ble_eq_true rfl) (lv := [(0, .int a1), (1, .int a2)]) rfl ?_
  intro p e s m below meth c C hr w ls hl
  replace C : zx_C p s m _ meth c G RX4 cX4_rounded 2 := C
  unfold zf_X4_rounded at h
  refine lv_iload_n C.1 C.2.1 dX4_rounded_0 rfl (lv_at hl 0 rfl) ?_
  refine lv_iload_n C.1 C.2.1 dX4_rounded_1 rfl (lv_at hl 1 rfl) ?_
  refine lv_imul C.1 C.2.1 dX4_rounded_2 ?_
  refine lv_sipush (v := 16384) C.1 C.2.1 dX4_rounded_3 (by decide) ?_
  refine lv_iadd C.1 C.2.1 dX4_rounded_6 ?_
  refine lv_bipush (v := 15) C.1 C.2.1 dX4_rounded_7 (by decide) ?_
  refine lv_ishr C.1 C.2.1 dX4_rounded_9 ?_
  refine zr_callSi C w (As := [.int (((a1 * a2) + (16384 : Int32)) >>> ((15 : Int32) &&& 31))]) (zm_X4_cut l G _ _ _ rfl) zm_c_X4_cut zm_l_X4_9 zm_s_X4_cut zm_0_X4 zm_d_X4_cut ⟨rfl, rfl⟩ ⟨Nat.le_of_ble_eq_true rfl, Nat.le_of_ble_eq_true rfl⟩ hl.1 rfl rfl (Nat.le_of_ble_eq_true rfl) dX4_rounded_10 ⟨Nat.le_of_ble_eq_true rfl, Nat.le_of_ble_eq_true rfl⟩ (fun H locs w => ?_)
  refine zr_lti h (fun v1 h => ?_)
  exact zr_reti C w hr dX4_rounded_13 h rfl
set_option maxHeartbeats 4000000 in
set_option maxRecDepth 100000 in
theorem zq_X3_nearestInt_15 {p : Program} {l : Launch} {e : Env} {s : State} {m : MethodId} {args : Array Value} {below : List Frame} {meth : Method} {c : Code} {G : zg_T} (hr : meth.sig.returnType = (some .int)) (C : zx_C p s m args meth c G RX3 cX3_nearestInt 4) (r : Int32) (S : zs_T) (z0 : Int64) (h : zj_X3_nearestInt_15 z0 = r) (H : Heap) (locs : List Loc) (ls : Array Slot) (w : zg_W G S s H locs) (hl : lv_has ls 4 []) : W p l e zr_m_X3_nearestInt s m args below meth c H locs 0 0 (MQ below (zg_Q G (some (.int r)) S) args s 0 0 (zg_A G)) (F0 m 15 ls [.long z0]) := by
  unfold zj_X3_nearestInt_15 at h
  refine lv_lstore_n (lv' := [(2, .long z0)]) C.1 C.2.1 dX3_nearestInt_15 rfl hl (by decide) rfl (fun ls hl => ?_)
  refine lv_lload_n C.1 C.2.1 dX3_nearestInt_16 rfl (lv_at hl 0 rfl) ?_
  refine lv_ldc2 (v := 2147483647) C.1 C.2.1 C.2.2.2.1 (C.2.2.2.2.1 _ zm_k_X3_47) dX3_nearestInt_17 ?_
  refine zr_lc_le (tgt := 30) C dX3_nearestInt_20 dX3_nearestInt_21 (by decide) h (fun h => ?_) (fun h => ?_)
  · refine lv_lload_n C.1 C.2.1 dX3_nearestInt_30 rfl (lv_at hl 0 rfl) ?_
    refine lv_l2i C.1 C.2.1 dX3_nearestInt_31 rfl ?_
    exact zr_reti C w hr dX3_nearestInt_32 h rfl
  · refine lv_ldc2 (v := 2147483647) C.1 C.2.1 C.2.2.2.1 (C.2.2.2.2.1 _ zm_k_X3_47) dX3_nearestInt_24 ?_
    refine lv_goto (tgt := 31) C.1 C.2.1 dX3_nearestInt_27 (by decide) ?_
    refine lv_l2i C.1 C.2.1 dX3_nearestInt_31 rfl ?_
    exact zr_reti C w hr dX3_nearestInt_32 h rfl
set_option maxHeartbeats 4000000 in
set_option maxRecDepth 100000 in
theorem zm_X3_nearestInt (l : Launch) (G : zg_T) (S : zs_T) (a1 : Int64) (r : Int32) (h : zf_X3_nearestInt a1 = r) : Met l yX3_nearestInt (Cond.code yX3_nearestInt cX3_nearestInt 4 (some .int) :: zt_G) zr_m_X3_nearestInt (va_Pc [.long a1] (zg_P G S)) (zg_Q G (some (.int r)) S) 0 0 (zg_A G) := by
  refine zx_met (by decide +kernel) (Nat.le_of_ble_eq_true rfl) (lv := [(0, .long a1)]) rfl ?_
  intro p e s m below meth c C hr w ls hl
  replace C : zx_C p s m _ meth c G RX3 cX3_nearestInt 4 := C
  unfold zf_X3_nearestInt at h
  refine lv_lload_n C.1 C.2.1 dX3_nearestInt_0 rfl (lv_at hl 0 rfl) ?_
  refine lv_ldc2 (v := -2147483648) C.1 C.2.1 C.2.2.2.1 (C.2.2.2.2.1 _ zm_k_X3_45) dX3_nearestInt_1 ?_
  refine zr_lc_ge (tgt := 14) C dX3_nearestInt_4 dX3_nearestInt_5 (by decide) h (fun h => ?_) (fun h => ?_)
  · refine lv_lload_n C.1 C.2.1 dX3_nearestInt_14 rfl (lv_at hl 0 rfl) ?_
    exact zq_X3_nearestInt_15 hr C _ _ _ h _ _ _ w (lv_sub hl [] rfl)
  · refine lv_ldc2 (v := -2147483648) C.1 C.2.1 C.2.2.2.1 (C.2.2.2.2.1 _ zm_k_X3_45) dX3_nearestInt_8 ?_
    refine lv_goto (tgt := 15) C.1 C.2.1 dX3_nearestInt_11 (by decide) ?_
    exact zq_X3_nearestInt_15 hr C _ _ _ h _ _ _ w (lv_sub hl [] rfl)
set_option maxHeartbeats 4000000 in
set_option maxRecDepth 100000 in
theorem zm_X3_next (l : Launch) (G : zg_T) (S : zs_T) (a1 : Int32) (r : Int32) (S1 : zs_T) (h : zf_X3_next S a1 = some (r, S1)) : Met l yX3_next (Cond.code yX3_next cX3_next 9 (some .int) :: zt_G) zr_m_X3_next (va_Pc [.ref (zg_q G 8), .int a1] (zg_P G S)) (zg_Q G (some (.int r)) S1) 0 0 (zg_A G) := by
  refine zx_met (by decide +kernel) (Nat.le_of_ble_eq_true rfl) (lv := [(0, .ref (zg_q G 8)), (1, .int a1)]) rfl ?_
  intro p e s m below meth c C hr w ls hl
  replace C : zx_C p s m _ meth c G RX3 cX3_next 9 := C
  unfold zf_X3_next at h
  refine lv_iload_n C.1 C.2.1 dX3_next_0 rfl (lv_at hl 1 rfl) ?_
  refine lv_iconst (v := 3) C.1 C.2.1 dX3_next_1 (by decide) ?_
  refine lv_ishr C.1 C.2.1 dX3_next_2 ?_
  refine lv_iconst (v := 2) C.1 C.2.1 dX3_next_3 (by decide) ?_
  refine lv_ishl C.1 C.2.1 dX3_next_4 ?_
  refine zr_lti h (fun v1 h => ?_)
  refine lv_istore_n (lv' := [(2, .int v1), (0, .ref (zg_q G 8)), (1, .int a1)]) C.1 C.2.1 dX3_next_5 rfl hl (by decide) rfl (fun ls hl => ?_)
  refine lv_iload_n C.1 C.2.1 dX3_next_6 rfl (lv_at hl 0 rfl) ?_
  refine lv_aload_n C.1 C.2.1 dX3_next_7 rfl (lv_at hl 1 rfl) ?_
  refine zr_get C w 8 zm_w_X3 (zw_g8 G _) rfl 0 (by decide) zm_f_X3_15 rfl dX3_next_8 ?_
  refine lv_isub C.1 C.2.1 dX3_next_11 ?_
  refine lv_i2l C.1 C.2.1 dX3_next_12 rfl ?_
  refine lv_ldc2 (v := 32768) C.1 C.2.1 C.2.2.2.1 (C.2.2.2.2.1 _ zm_k_X3_25) dX3_next_13 ?_
  refine lv_lmul C.1 C.2.1 dX3_next_16 ?_
  refine zr_ltl h (fun v2 h => ?_)
  refine lv_lstore_n (lv' := [(3, .long v2), (2, .int v1), (0, .ref (zg_q G 8)), (1, .int a1)]) C.1 C.2.1 dX3_next_17 rfl hl (by decide) rfl (fun ls hl => ?_)
  refine lv_aload_n C.1 C.2.1 dX3_next_18 rfl (lv_at hl 2 rfl) ?_
  refine lv_iload_n C.1 C.2.1 dX3_next_19 rfl (lv_at hl 1 rfl) ?_
  refine zr_put C w 8 zm_w_X3 tyX3 tyX3_ok nmX3 (zw_g8 G _) rfl 0 (by decide) zm_f_X3_15 rfl (ty := .int) (by decide +kernel) rfl rfl (Nat.le_of_ble_eq_true rfl) (zw_f8_0 G _ _) dX3_next_20 h (fun S3 H locs w h => ?_)
  refine lv_aload_n C.1 C.2.1 dX3_next_23 rfl (lv_at hl 2 rfl) ?_
  refine zr_get C w 8 zm_w_X3 (zw_g8 G _) rfl 1 (by decide) zm_f_X3_19 rfl dX3_next_24 ?_
  refine lv_bipush (v := 15) C.1 C.2.1 dX3_next_27 (by decide) ?_
  refine lv_ishr C.1 C.2.1 dX3_next_29 ?_
  refine zr_lti h (fun v4 h => ?_)
  refine lv_istore (lv' := [(5, .int v4), (3, .long v2), (2, .int v1), (0, .ref (zg_q G 8)), (1, .int a1)]) C.1 C.2.1 dX3_next_30 hl (by decide) rfl (fun ls hl => ?_)
  refine lv_aload_n C.1 C.2.1 dX3_next_32 rfl (lv_at hl 3 rfl) ?_
  refine zr_get C w 8 zm_w_X3 (zw_g8 G _) rfl 1 (by decide) zm_f_X3_19 rfl dX3_next_33 ?_
  refine lv_iload C.1 C.2.1 dX3_next_36 (lv_at hl 0 rfl) ?_
  refine lv_ldc (v := 32768) C.1 C.2.1 C.2.2.2.1 (C.2.2.2.2.1 _ zm_k_X3_27) dX3_next_38 ?_
  refine lv_imul C.1 C.2.1 dX3_next_40 ?_
  refine lv_isub C.1 C.2.1 dX3_next_41 ?_
  refine zr_lti h (fun v5 h => ?_)
  refine lv_istore (lv' := [(6, .int v5), (5, .int v4), (3, .long v2), (2, .int v1), (0, .ref (zg_q G 8)), (1, .int a1)]) C.1 C.2.1 dX3_next_42 hl (by decide) rfl (fun ls hl => ?_)
  refine lv_aload_n C.1 C.2.1 dX3_next_44 rfl (lv_at hl 4 rfl) ?_
  refine lv_iload C.1 C.2.1 dX3_next_45 (lv_at hl 1 rfl) ?_
  refine lv_i2l C.1 C.2.1 dX3_next_47 rfl ?_
  refine lv_ldc2 (v := 32735) C.1 C.2.1 C.2.2.2.1 (C.2.2.2.2.1 _ zm_k_X3_28) dX3_next_48 ?_
  refine lv_lmul C.1 C.2.1 dX3_next_51 ?_
  refine lv_lload_n C.1 C.2.1 dX3_next_52 rfl (lv_at hl 2 rfl) ?_
  refine lv_ladd C.1 C.2.1 dX3_next_53 ?_
  refine lv_iload C.1 C.2.1 dX3_next_54 (lv_at hl 0 rfl) ?_
  refine lv_sipush (v := 32735) C.1 C.2.1 dX3_next_56 (by decide) ?_
  refine zr_callSi C w (As := [.int v5, .int (32735 : Int32)]) (zm_X4_rounded l G _ _ _ _ rfl) zm_c_X4_rounded zm_l_X3_30 zm_s_X4_rounded zm_0_X4 zm_d_X4_rounded ⟨rfl, rfl⟩ ⟨Nat.le_of_ble_eq_true rfl, Nat.le_of_ble_eq_true rfl⟩ hl.1 rfl rfl (Nat.le_of_ble_eq_true rfl) dX3_next_59 ⟨Nat.le_of_ble_eq_true rfl, Nat.le_of_ble_eq_true rfl⟩ (fun H locs w => ?_)
  refine zr_lti h (fun v6 h => ?_)
  refine lv_i2l C.1 C.2.1 dX3_next_62 rfl ?_
  refine lv_ladd C.1 C.2.1 dX3_next_63 ?_
  refine zr_callSi C w (As := [.long ((((Int32.toInt64 v4) * (32735 : Int64)) + v2) + (Int32.toInt64 v6))]) (zm_X3_nearestInt l G _ _ _ rfl) zm_c_X3_nearestInt zm_l_X3_36 zm_s_X3_nearestInt zm_0_X3 zm_d_X3_nearestInt ⟨rfl, rfl⟩ ⟨Nat.le_of_ble_eq_true rfl, Nat.le_of_ble_eq_true rfl⟩ hl.1 rfl rfl (Nat.le_of_ble_eq_true rfl) dX3_next_64 ⟨Nat.le_of_ble_eq_true rfl, Nat.le_of_ble_eq_true rfl⟩ (fun H locs w => ?_)
  refine zr_lti h (fun v7 h => ?_)
  refine zr_put C w 8 zm_w_X3 tyX3 tyX3_ok nmX3 (zw_g8 G _) rfl 1 (by decide) zm_f_X3_19 rfl (ty := .int) (by decide +kernel) rfl rfl (Nat.le_of_ble_eq_true rfl) (zw_f8_1 G _ _) dX3_next_67 h (fun S8 H locs w h => ?_)
  refine lv_aload_n C.1 C.2.1 dX3_next_70 rfl (lv_at hl 4 rfl) ?_
  refine zr_get C w 8 zm_w_X3 (zw_g8 G _) rfl 1 (by decide) zm_f_X3_19 rfl dX3_next_71 ?_
  refine lv_i2l C.1 C.2.1 dX3_next_74 rfl ?_
  refine lv_ldc2 (v := 16384) C.1 C.2.1 C.2.2.2.1 (C.2.2.2.2.1 _ zm_k_X3_40) dX3_next_75 ?_
  refine lv_ladd C.1 C.2.1 dX3_next_78 ?_
  refine zr_callSi C w (As := [.long ((Int32.toInt64 (S8.1 8 1)) + (16384 : Int64))]) (zm_X3_nearestInt l G _ _ _ rfl) zm_c_X3_nearestInt zm_l_X3_36 zm_s_X3_nearestInt zm_0_X3 zm_d_X3_nearestInt ⟨rfl, rfl⟩ ⟨Nat.le_of_ble_eq_true rfl, Nat.le_of_ble_eq_true rfl⟩ hl.1 rfl rfl (Nat.le_of_ble_eq_true rfl) dX3_next_79 ⟨Nat.le_of_ble_eq_true rfl, Nat.le_of_ble_eq_true rfl⟩ (fun H locs w => ?_)
  refine zr_lti h (fun v9 h => ?_)
  refine lv_bipush (v := 15) C.1 C.2.1 dX3_next_82 (by decide) ?_
  refine lv_ishr C.1 C.2.1 dX3_next_84 ?_
  refine zr_callSi C w (As := [.int (v9 >>> ((15 : Int32) &&& 31))]) (zm_X4_cut l G _ _ _ rfl) zm_c_X4_cut zm_l_X3_42 zm_s_X4_cut zm_0_X4 zm_d_X4_cut ⟨rfl, rfl⟩ ⟨Nat.le_of_ble_eq_true rfl, Nat.le_of_ble_eq_true rfl⟩ hl.1 rfl rfl (Nat.le_of_ble_eq_true rfl) dX3_next_85 ⟨Nat.le_of_ble_eq_true rfl, Nat.le_of_ble_eq_true rfl⟩ (fun H locs w => ?_)
  refine zr_lti h (fun v10 h => ?_)
  refine lv_istore (lv' := [(7, .int v10), (6, .int v5), (5, .int v4), (3, .long v2), (2, .int v1), (0, .ref (zg_q G 8)), (1, .int a1)]) C.1 C.2.1 dX3_next_88 hl (by decide) rfl (fun ls hl => ?_)
  refine lv_iload C.1 C.2.1 dX3_next_90 (lv_at hl 0 rfl) ?_
  refine lv_aload_n C.1 C.2.1 dX3_next_92 rfl (lv_at hl 5 rfl) ?_
  refine zr_get C w 8 zm_w_X3 (zw_g8 G _) rfl 2 (by decide) zm_f_X3_22 rfl dX3_next_93 ?_
  refine lv_sipush (v := -28180) C.1 C.2.1 dX3_next_96 (by decide) ?_
  refine zr_callSi C w (As := [.int (S8.1 8 2), .int (-28180 : Int32)]) (zm_X4_rounded l G _ _ _ _ rfl) zm_c_X4_rounded zm_l_X3_30 zm_s_X4_rounded zm_0_X4 zm_d_X4_rounded ⟨rfl, rfl⟩ ⟨Nat.le_of_ble_eq_true rfl, Nat.le_of_ble_eq_true rfl⟩ hl.1 rfl rfl (Nat.le_of_ble_eq_true rfl) dX3_next_99 ⟨Nat.le_of_ble_eq_true rfl, Nat.le_of_ble_eq_true rfl⟩ (fun H locs w => ?_)
  refine zr_lti h (fun v11 h => ?_)
  refine lv_iadd C.1 C.2.1 dX3_next_102 ?_
  refine zr_callSi C w (As := [.int (v10 + v11)]) (zm_X4_cut l G _ _ _ rfl) zm_c_X4_cut zm_l_X3_42 zm_s_X4_cut zm_0_X4 zm_d_X4_cut ⟨rfl, rfl⟩ ⟨Nat.le_of_ble_eq_true rfl, Nat.le_of_ble_eq_true rfl⟩ hl.1 rfl rfl (Nat.le_of_ble_eq_true rfl) dX3_next_103 ⟨Nat.le_of_ble_eq_true rfl, Nat.le_of_ble_eq_true rfl⟩ (fun H locs w => ?_)
  refine zr_lti h (fun v12 h => ?_)
  refine lv_istore (lv' := [(8, .int v12), (7, .int v10), (6, .int v5), (5, .int v4), (3, .long v2), (2, .int v1), (0, .ref (zg_q G 8)), (1, .int a1)]) C.1 C.2.1 dX3_next_106 hl (by decide) rfl (fun ls hl => ?_)
  refine lv_aload_n C.1 C.2.1 dX3_next_108 rfl (lv_at hl 6 rfl) ?_
  refine lv_iload C.1 C.2.1 dX3_next_109 (lv_at hl 1 rfl) ?_
  refine zr_put C w 8 zm_w_X3 tyX3 tyX3_ok nmX3 (zw_g8 G _) rfl 2 (by decide) zm_f_X3_22 rfl (ty := .int) (by decide +kernel) rfl rfl (Nat.le_of_ble_eq_true rfl) (zw_f8_2 G _ _) dX3_next_111 h (fun S13 H locs w h => ?_)
  refine lv_iload C.1 C.2.1 dX3_next_114 (lv_at hl 0 rfl) ?_
  exact zr_reti C w hr dX3_next_116 (congrArg Prod.fst (Option.some.inj h)) (congrArg Prod.snd (Option.some.inj h))
set_option maxHeartbeats 4000000 in
set_option maxRecDepth 100000 in
theorem zk_X3_smooth_2 {p : Program} {l : Launch} {e : Env} {s : State} {m : MethodId} {args : Array Value} {below : List Frame} {meth : Method} {c : Code} {G : zg_T} {Q : State → Prop} (C : zx_C p s m args meth c G RX3 cX3_smooth 4) (oS : zs_T) (kont : ∀ (H : Heap) (locs : List Loc) (ls : Array Slot), zg_W G oS s H locs → lv_has ls 4 [] → W p l e zr_m_X3_smooth s m args below meth c H locs 0 0 Q (F0 m 25 ls [])) : ∀ (n : Nat) (S : zs_T) (x3 : Int32), zl_2 (zb_X3_smooth_2) n S x3 = some oS → ∀ (H : Heap) (locs : List Loc) (ls : Array Slot), zg_W G S s H locs → lv_has ls 4 [(0, .ref (zg_q G 8)), (1, .ref (zg_q G 1)), (2, .ref (zg_q G 6)), (3, .int x3)] → W p l e zr_m_X3_smooth s m args below meth c H locs 0 0 Q (F0 m 2 ls []) := by
  intro n
  induction n with
  | zero => intro S x3 h; cases h
  | succ n ih =>
    intro S x3 h H locs ls w hl
    replace h : zb_X3_smooth_2 (zl_2 (zb_X3_smooth_2) n) S x3 = some oS := h
    generalize zl_2 (zb_X3_smooth_2) n = rec at ih h
    unfold zb_X3_smooth_2 at h
    refine lv_iload_n C.1 C.2.1 dX3_smooth_2 rfl (lv_at hl 3 rfl) ?_
    refine lv_sipush (v := 160) C.1 C.2.1 dX3_smooth_3 (by decide) ?_
    refine zr_ic_ge (tgt := 25) C dX3_smooth_6 (by decide) h (fun h => ?_) (fun h => ?_)
    · cases h
      exact kont _ _ _ w (lv_sub hl [] rfl)
    · refine lv_aload_n C.1 C.2.1 dX3_smooth_9 rfl (lv_at hl 2 rfl) ?_
      refine lv_iload_n C.1 C.2.1 dX3_smooth_10 rfl (lv_at hl 3 rfl) ?_
      refine lv_aload_n C.1 C.2.1 dX3_smooth_11 rfl (lv_at hl 0 rfl) ?_
      refine lv_aload_n C.1 C.2.1 dX3_smooth_12 rfl (lv_at hl 1 rfl) ?_
      refine lv_iload_n C.1 C.2.1 dX3_smooth_13 rfl (lv_at hl 3 rfl) ?_
      refine zr_iald C w 1 (zw_g1 G _) dX3_smooth_14 h (fun h => ?_)
      obtain ⟨v1, S2, hc, h⟩ := zc_b2_x h
      refine zr_callVi C w 8 (zw_g8 G _) rfl (As := [.int (S.1 1 (Int32.toNatClampNeg x3))]) (zm_X3_next l G _ _ _ _ hc) zm_c_X3_next zm_l_X3_9 zm_i_X3_next zm_e_X3_next zm_0_X3 zm_d_X3_next ⟨rfl, rfl⟩ ⟨Nat.le_of_ble_eq_true rfl, Nat.le_of_ble_eq_true rfl⟩ hl.1 rfl rfl (Nat.le_of_ble_eq_true rfl) dX3_smooth_15 ⟨Nat.le_of_ble_eq_true rfl, Nat.le_of_ble_eq_true rfl⟩ (fun H locs w => ?_)
      clear hc
      refine zr_iast C w 6 (zw_g6 G _) (zw_s6 G _) dX3_smooth_18 h (fun S3 H locs w h => ?_)
      obtain ⟨v4, e_, h⟩ := zc_lt_x h
      refine lv_iinc (v := v4) (lv' := [(3, .int v4), (0, .ref (zg_q G 8)), (1, .ref (zg_q G 1)), (2, .ref (zg_q G 6))]) C.1 C.2.1 dX3_smooth_19 hl (k := 3) rfl (by subst e_; rfl) (by decide) rfl (fun ls hl => ?_)
      clear e_
      refine lv_goto (tgt := 2) C.1 C.2.1 dX3_smooth_22 (by decide) ?_
      exact ih _ _ h _ _ _ w (lv_sub hl [1, 2, 3, 0] rfl)
set_option maxHeartbeats 4000000 in
set_option maxRecDepth 100000 in
theorem zm_X3_smooth (l : Launch) (G : zg_T) (S : zs_T) (S1 : zs_T) (h : zf_X3_smooth S = some S1) : Met l yX3_smooth (Cond.code yX3_smooth cX3_smooth 4 none :: zt_G) zr_m_X3_smooth (va_Pc [.ref (zg_q G 8), .ref (zg_q G 1), .ref (zg_q G 6)] (zg_P G S)) (zg_Q G none S1) 0 0 (zg_A G) := by
  refine zx_met (by decide +kernel) (Nat.le_of_ble_eq_true rfl) (lv := [(0, .ref (zg_q G 8)), (1, .ref (zg_q G 1)), (2, .ref (zg_q G 6))]) rfl ?_
  intro p e s m below meth c C hr w ls hl
  replace C : zx_C p s m _ meth c G RX3 cX3_smooth 4 := C
  unfold zf_X3_smooth at h
  refine lv_iconst (v := 0) C.1 C.2.1 dX3_smooth_0 (by decide) ?_
  refine lv_istore_n (lv' := [(3, .int (0 : Int32)), (0, .ref (zg_q G 8)), (1, .ref (zg_q G 1)), (2, .ref (zg_q G 6))]) C.1 C.2.1 dX3_smooth_1 rfl hl (by decide) rfl (fun ls hl => ?_)
  obtain ⟨S5, hc, h⟩ := zc_b1_x h
  refine zk_X3_smooth_2 C S5 (fun H locs ls w hl => ?_) _ _ _ hc _ _ _ w (lv_sub hl [1, 2, 3, 0] rfl)
  clear hc
  exact zr_retv C w hr dX3_smooth_25 (Option.some.inj h)
set_option maxHeartbeats 4000000 in
set_option maxRecDepth 100000 in
theorem zm_X4_size (l : Launch) (G : zg_T) (S : zs_T) (a1 : Int32) (r : Int32) (h : zf_X4_size a1 = r) : Met l yX4_size (Cond.code yX4_size cX4_size 1 (some .int) :: zt_G) zr_m_X4_size (va_Pc [.int a1] (zg_P G S)) (zg_Q G (some (.int r)) S) 0 0 (zg_A G) := by
  refine zx_met (by decide +kernel) (Nat.le_of_ble_eq_true rfl) (lv := [(0, .int a1)]) rfl ?_
  intro p e s m below meth c C hr w ls hl
  replace C : zx_C p s m _ meth c G RX4 cX4_size 1 := C
  unfold zf_X4_size at h
  refine lv_iload_n C.1 C.2.1 dX4_size_0 rfl (lv_at hl 0 rfl) ?_
  refine zr_if_ge (tgt := 9) C dX4_size_1 (by decide) h (fun h => ?_) (fun h => ?_)
  · refine lv_iload_n C.1 C.2.1 dX4_size_9 rfl (lv_at hl 0 rfl) ?_
    refine zr_callSi C w (As := [.int a1]) (zm_X4_cut l G _ _ _ rfl) zm_c_X4_cut zm_l_X4_9 zm_s_X4_cut zm_0_X4 zm_d_X4_cut ⟨rfl, rfl⟩ ⟨Nat.le_of_ble_eq_true rfl, Nat.le_of_ble_eq_true rfl⟩ hl.1 rfl rfl (Nat.le_of_ble_eq_true rfl) dX4_size_10 ⟨Nat.le_of_ble_eq_true rfl, Nat.le_of_ble_eq_true rfl⟩ (fun H locs w => ?_)
    refine zr_lti h (fun v1 h => ?_)
    exact zr_reti C w hr dX4_size_13 h rfl
  · refine lv_iload_n C.1 C.2.1 dX4_size_4 rfl (lv_at hl 0 rfl) ?_
    refine lv_ineg C.1 C.2.1 dX4_size_5 ?_
    refine lv_goto (tgt := 10) C.1 C.2.1 dX4_size_6 (by decide) ?_
    refine zr_callSi C w (As := [.int (-a1)]) (zm_X4_cut l G _ _ _ rfl) zm_c_X4_cut zm_l_X4_9 zm_s_X4_cut zm_0_X4 zm_d_X4_cut ⟨rfl, rfl⟩ ⟨Nat.le_of_ble_eq_true rfl, Nat.le_of_ble_eq_true rfl⟩ hl.1 rfl rfl (Nat.le_of_ble_eq_true rfl) dX4_size_10 ⟨Nat.le_of_ble_eq_true rfl, Nat.le_of_ble_eq_true rfl⟩ (fun H locs w => ?_)
    refine zr_lti h (fun v2 h => ?_)
    exact zr_reti C w hr dX4_size_13 h rfl
set_option maxHeartbeats 4000000 in
set_option maxRecDepth 100000 in
theorem zk_X4_greatestSize_6_6 {p : Program} {l : Launch} {e : Env} {s : State} {m : MethodId} {args : Array Value} {below : List Frame} {meth : Method} {c : Code} {G : zg_T} {Q : State → Prop} (C : zx_C p s m args meth c G RX4 cX4_greatestSize 7) (S : zs_T) (f1 : Int32) (f2 : Int32) (f3 : Int32) (o4 : Int32) (kont : ∀ (H : Heap) (locs : List Loc) (ls : Array Slot), zg_W G S s H locs → lv_has ls 7 [(4, .int o4)] → W p l e zr_m_X4_greatestSize s m args below meth c H locs 0 0 Q (F0 m 47 ls [])) : ∀ (n : Nat) (x4 : Int32) (x5 : Int32), zl_2 (zb_X4_greatestSize_6 6 160 S f1 f2 f3) n x4 x5 = some o4 → ∀ (H : Heap) (locs : List Loc) (ls : Array Slot), zg_W G S s H locs → lv_has ls 7 [(0, .ref (zg_q G 6)), (1, .int f1), (2, .int f2), (3, .int f3), (4, .int x4), (5, .int x5)] → W p l e zr_m_X4_greatestSize s m args below meth c H locs 0 0 Q (F0 m 6 ls []) := by
  intro n
  induction n with
  | zero => intro x4 x5 h; cases h
  | succ n ih =>
    intro x4 x5 h H locs ls w hl
    replace h : zb_X4_greatestSize_6 6 160 S f1 f2 f3 (zl_2 (zb_X4_greatestSize_6 6 160 S f1 f2 f3) n) x4 x5 = some o4 := h
    generalize zl_2 (zb_X4_greatestSize_6 6 160 S f1 f2 f3) n = rec at ih h
    unfold zb_X4_greatestSize_6 at h
    refine lv_iload C.1 C.2.1 dX4_greatestSize_6 (lv_at hl 5 rfl) ?_
    refine lv_iload_n C.1 C.2.1 dX4_greatestSize_8 rfl (lv_at hl 3 rfl) ?_
    refine zr_ic_ge (tgt := 47) C dX4_greatestSize_9 (by decide) h (fun h => ?_) (fun h => ?_)
    · cases h
      exact kont _ _ _ w (lv_sub hl [4] rfl)
    · refine lv_aload_n C.1 C.2.1 dX4_greatestSize_12 rfl (lv_at hl 0 rfl) ?_
      refine lv_iload_n C.1 C.2.1 dX4_greatestSize_13 rfl (lv_at hl 1 rfl) ?_
      refine lv_iload_n C.1 C.2.1 dX4_greatestSize_14 rfl (lv_at hl 2 rfl) ?_
      refine lv_iload C.1 C.2.1 dX4_greatestSize_15 (lv_at hl 5 rfl) ?_
      refine lv_imul C.1 C.2.1 dX4_greatestSize_17 ?_
      refine lv_iadd C.1 C.2.1 dX4_greatestSize_18 ?_
      refine zr_iald C w 6 (zw_g6 G _) dX4_greatestSize_19 h (fun h => ?_)
      refine zr_callSi C w (As := [.int (S.1 6 (Int32.toNatClampNeg (f1 + (f2 * x5))))]) (zm_X4_size l G _ _ _ rfl) zm_c_X4_size zm_l_X4_16 zm_s_X4_size zm_0_X4 zm_d_X4_size ⟨rfl, rfl⟩ ⟨Nat.le_of_ble_eq_true rfl, Nat.le_of_ble_eq_true rfl⟩ hl.1 rfl rfl (Nat.le_of_ble_eq_true rfl) dX4_greatestSize_20 ⟨Nat.le_of_ble_eq_true rfl, Nat.le_of_ble_eq_true rfl⟩ (fun H locs w => ?_)
      refine zr_lti h (fun v1 h => ?_)
      refine lv_istore (lv' := [(6, .int v1), (0, .ref (zg_q G 6)), (1, .int f1), (2, .int f2), (3, .int f3), (4, .int x4), (5, .int x5)]) C.1 C.2.1 dX4_greatestSize_23 hl (by decide) rfl (fun ls hl => ?_)
      refine lv_iload C.1 C.2.1 dX4_greatestSize_25 (lv_at hl 0 rfl) ?_
      refine lv_iload C.1 C.2.1 dX4_greatestSize_27 (lv_at hl 5 rfl) ?_
      refine zr_ic_le (tgt := 37) C dX4_greatestSize_29 (by decide) h (fun h => ?_) (fun h => ?_)
      · refine lv_iload C.1 C.2.1 dX4_greatestSize_37 (lv_at hl 5 rfl) ?_
        refine lv_istore (lv' := [(4, .int x4), (6, .int v1), (0, .ref (zg_q G 6)), (1, .int f1), (2, .int f2), (3, .int f3), (5, .int x5)]) C.1 C.2.1 dX4_greatestSize_39 hl (by decide) rfl (fun ls hl => ?_)
        obtain ⟨v2, e_, h⟩ := zc_lt_x h
        refine lv_iinc (v := v2) (lv' := [(5, .int v2), (4, .int x4), (6, .int v1), (0, .ref (zg_q G 6)), (1, .int f1), (2, .int f2), (3, .int f3)]) C.1 C.2.1 dX4_greatestSize_41 hl (k := 6) rfl (by subst e_; rfl) (by decide) rfl (fun ls hl => ?_)
        clear e_
        refine lv_goto (tgt := 6) C.1 C.2.1 dX4_greatestSize_44 (by decide) ?_
        exact ih _ _ h _ _ _ w (lv_sub hl [3, 4, 5, 6, 1, 0] rfl)
      · refine lv_iload C.1 C.2.1 dX4_greatestSize_32 (lv_at hl 0 rfl) ?_
        refine lv_goto (tgt := 39) C.1 C.2.1 dX4_greatestSize_34 (by decide) ?_
        refine lv_istore (lv' := [(4, .int v1), (6, .int v1), (0, .ref (zg_q G 6)), (1, .int f1), (2, .int f2), (3, .int f3), (5, .int x5)]) C.1 C.2.1 dX4_greatestSize_39 hl (by decide) rfl (fun ls hl => ?_)
        obtain ⟨v3, e_, h⟩ := zc_lt_x h
        refine lv_iinc (v := v3) (lv' := [(5, .int v3), (4, .int v1), (6, .int v1), (0, .ref (zg_q G 6)), (1, .int f1), (2, .int f2), (3, .int f3)]) C.1 C.2.1 dX4_greatestSize_41 hl (k := 6) rfl (by subst e_; rfl) (by decide) rfl (fun ls hl => ?_)
        clear e_
        refine lv_goto (tgt := 6) C.1 C.2.1 dX4_greatestSize_44 (by decide) ?_
        exact ih _ _ h _ _ _ w (lv_sub hl [3, 4, 5, 6, 1, 0] rfl)
set_option maxHeartbeats 4000000 in
set_option maxRecDepth 100000 in
theorem zm_X4_greatestSize_6 (l : Launch) (G : zg_T) (S : zs_T) (a1 : Int32) (a2 : Int32) (a3 : Int32) (r : Int32) (h : zf_X4_greatestSize 6 160 S a1 a2 a3 = some r) : Met l yX4_greatestSize (Cond.code yX4_greatestSize cX4_greatestSize 7 (some .int) :: zt_G) zr_m_X4_greatestSize (va_Pc [.ref (zg_q G 6), .int a1, .int a2, .int a3] (zg_P G S)) (zg_Q G (some (.int r)) S) 0 0 (zg_A G) := by
  refine zx_met (by decide +kernel) (Nat.le_of_ble_eq_true rfl) (lv := [(0, .ref (zg_q G 6)), (1, .int a1), (2, .int a2), (3, .int a3)]) rfl ?_
  intro p e s m below meth c C hr w ls hl
  replace C : zx_C p s m _ meth c G RX4 cX4_greatestSize 7 := C
  unfold zf_X4_greatestSize at h
  refine lv_iconst (v := 0) C.1 C.2.1 dX4_greatestSize_0 (by decide) ?_
  refine lv_istore (lv' := [(4, .int (0 : Int32)), (0, .ref (zg_q G 6)), (1, .int a1), (2, .int a2), (3, .int a3)]) C.1 C.2.1 dX4_greatestSize_1 hl (by decide) rfl (fun ls hl => ?_)
  refine lv_iconst (v := 0) C.1 C.2.1 dX4_greatestSize_3 (by decide) ?_
  refine lv_istore (lv' := [(5, .int (0 : Int32)), (4, .int (0 : Int32)), (0, .ref (zg_q G 6)), (1, .int a1), (2, .int a2), (3, .int a3)]) C.1 C.2.1 dX4_greatestSize_4 hl (by decide) rfl (fun ls hl => ?_)
  obtain ⟨v4, hc, h⟩ := zc_b1_x h
  refine zk_X4_greatestSize_6_6 C _ a1 a2 a3 v4 (fun H locs ls w hl => ?_) _ _ _ hc _ _ _ w (lv_sub hl [2, 3, 4, 5, 1, 0] rfl)
  clear hc
  refine lv_iload C.1 C.2.1 dX4_greatestSize_47 (lv_at hl 0 rfl) ?_
  exact zr_reti C w hr dX4_greatestSize_49 (Option.some.inj h) rfl
set_option maxHeartbeats 4000000 in
set_option maxRecDepth 100000 in
theorem zk_X4_norm_4 {p : Program} {l : Launch} {e : Env} {s : State} {m : MethodId} {args : Array Value} {below : List Frame} {meth : Method} {c : Code} {G : zg_T} {Q : State → Prop} (C : zx_C p s m args meth c G RX4 cX4_norm 3) (S : zs_T) (o1 : Int32) (kont : ∀ (H : Heap) (locs : List Loc) (ls : Array Slot), zg_W G S s H locs → lv_has ls 3 [(1, .int o1)] → W p l e zr_m_X4_norm s m args below meth c H locs 0 0 Q (F0 m 26 ls [])) : ∀ (n : Nat) (x1 : Int32) (x2 : Int32), zl_2 (zb_X4_norm_4) n x1 x2 = some o1 → ∀ (H : Heap) (locs : List Loc) (ls : Array Slot), zg_W G S s H locs → lv_has ls 3 [(1, .int x1), (2, .int x2)] → W p l e zr_m_X4_norm s m args below meth c H locs 0 0 Q (F0 m 4 ls []) := by
  intro n
  induction n with
  | zero => intro x1 x2 h; cases h
  | succ n ih =>
    intro x1 x2 h H locs ls w hl
    replace h : zb_X4_norm_4 (zl_2 (zb_X4_norm_4) n) x1 x2 = some o1 := h
    generalize zl_2 (zb_X4_norm_4) n = rec at ih h
    unfold zb_X4_norm_4 at h
    refine lv_iload_n C.1 C.2.1 dX4_norm_4 rfl (lv_at hl 0 rfl) ?_
    refine lv_bipush (v := 30) C.1 C.2.1 dX4_norm_5 (by decide) ?_
    refine zr_ic_ge (tgt := 26) C dX4_norm_7 (by decide) h (fun h => ?_) (fun h => ?_)
    · cases h
      exact kont _ _ _ w (lv_sub hl [0] rfl)
    · refine lv_iload_n C.1 C.2.1 dX4_norm_10 rfl (lv_at hl 1 rfl) ?_
      refine lv_ldc (v := 1073741824) C.1 C.2.1 C.2.2.2.1 (C.2.2.2.2.1 _ zm_k_X4_15) dX4_norm_11 ?_
      refine zr_ic_ge (tgt := 26) C dX4_norm_13 (by decide) h (fun h => ?_) (fun h => ?_)
      · cases h
        exact kont _ _ _ w (lv_sub hl [0] rfl)
      · obtain ⟨v1, e_, h⟩ := zc_lt_x h
        refine lv_iinc (v := v1) (lv' := [(1, .int v1), (2, .int x2)]) C.1 C.2.1 dX4_norm_16 hl (k := 0) rfl (by subst e_; rfl) (by decide) rfl (fun ls hl => ?_)
        clear e_
        refine lv_iload_n C.1 C.2.1 dX4_norm_19 rfl (lv_at hl 1 rfl) ?_
        refine lv_iconst (v := 1) C.1 C.2.1 dX4_norm_20 (by decide) ?_
        refine lv_ishl C.1 C.2.1 dX4_norm_21 ?_
        refine zr_lti h (fun v2 h => ?_)
        refine lv_istore_n (lv' := [(2, .int v2), (1, .int v1)]) C.1 C.2.1 dX4_norm_22 rfl hl (by decide) rfl (fun ls hl => ?_)
        refine lv_goto (tgt := 4) C.1 C.2.1 dX4_norm_23 (by decide) ?_
        exact ih _ _ h _ _ _ w (lv_sub hl [1, 0] rfl)
set_option maxHeartbeats 4000000 in
set_option maxRecDepth 100000 in
theorem zm_X4_norm (l : Launch) (G : zg_T) (S : zs_T) (a1 : Int32) (r : Int32) (h : zf_X4_norm a1 = some r) : Met l yX4_norm (Cond.code yX4_norm cX4_norm 3 (some .int) :: zt_G) zr_m_X4_norm (va_Pc [.int a1] (zg_P G S)) (zg_Q G (some (.int r)) S) 0 0 (zg_A G) := by
  refine zx_met (by decide +kernel) (Nat.le_of_ble_eq_true rfl) (lv := [(0, .int a1)]) rfl ?_
  intro p e s m below meth c C hr w ls hl
  replace C : zx_C p s m _ meth c G RX4 cX4_norm 3 := C
  unfold zf_X4_norm at h
  refine lv_iconst (v := 0) C.1 C.2.1 dX4_norm_0 (by decide) ?_
  refine lv_istore_n (lv' := [(1, .int (0 : Int32)), (0, .int a1)]) C.1 C.2.1 dX4_norm_1 rfl hl (by decide) rfl (fun ls hl => ?_)
  refine lv_iload_n C.1 C.2.1 dX4_norm_2 rfl (lv_at hl 1 rfl) ?_
  refine lv_istore_n (lv' := [(2, .int a1), (1, .int (0 : Int32)), (0, .int a1)]) C.1 C.2.1 dX4_norm_3 rfl hl (by decide) rfl (fun ls hl => ?_)
  obtain ⟨v3, hc, h⟩ := zc_b1_x h
  refine zk_X4_norm_4 C _ v3 (fun H locs ls w hl => ?_) _ _ _ hc _ _ _ w (lv_sub hl [1, 0] rfl)
  clear hc
  refine lv_iload_n C.1 C.2.1 dX4_norm_26 rfl (lv_at hl 0 rfl) ?_
  exact zr_reti C w hr dX4_norm_27 (Option.some.inj h) rfl
set_option maxHeartbeats 4000000 in
set_option maxRecDepth 100000 in
theorem zk_X6_lower_31 {p : Program} {l : Launch} {e : Env} {s : State} {m : MethodId} {args : Array Value} {below : List Frame} {meth : Method} {c : Code} {G : zg_T} {Q : State → Prop} (C : zx_C p s m args meth c G RX6 cX6_lower 5) (f3 : Int32) (oS : zs_T) (kont : ∀ (H : Heap) (locs : List Loc) (ls : Array Slot), zg_W G oS s H locs → lv_has ls 5 [] → W p l e zr_m_X6_lower s m args below meth c H locs 0 0 Q (F0 m 100 ls [])) : ∀ (n : Nat) (S : zs_T) (x4 : Int32), zl_2 (zb_X6_lower_31 f3) n S x4 = some oS → ∀ (H : Heap) (locs : List Loc) (ls : Array Slot), zg_W G S s H locs → lv_has ls 5 [(0, .ref (zg_q G 9)), (1, .ref (zg_q G 6)), (3, .int f3), (4, .int x4)] → W p l e zr_m_X6_lower s m args below meth c H locs 0 0 Q (F0 m 31 ls []) := by
  intro n
  induction n with
  | zero => intro S x4 h; cases h
  | succ n ih =>
    intro S x4 h H locs ls w hl
    replace h : zb_X6_lower_31 f3 (zl_2 (zb_X6_lower_31 f3) n) S x4 = some oS := h
    generalize zl_2 (zb_X6_lower_31 f3) n = rec at ih h
    unfold zb_X6_lower_31 at h
    refine lv_iload C.1 C.2.1 dX6_lower_31 (lv_at hl 3 rfl) ?_
    refine lv_sipush (v := 160) C.1 C.2.1 dX6_lower_33 (by decide) ?_
    refine zr_ic_ge (tgt := 100) C dX6_lower_36 (by decide) h (fun h => ?_) (fun h => ?_)
    · cases h
      exact kont _ _ _ w (lv_sub hl [] rfl)
    · refine lv_iload_n C.1 C.2.1 dX6_lower_39 rfl (lv_at hl 2 rfl) ?_
      refine zr_if_le (tgt := 83) C dX6_lower_40 (by decide) h (fun h => ?_) (fun h => ?_)
      · refine lv_aload_n C.1 C.2.1 dX6_lower_83 rfl (lv_at hl 0 rfl) ?_
        refine zr_get C w 9 zm_w_X6 (zw_g9 G _) rfl 0 (by decide) zm_f_X6_9 rfl dX6_lower_84 ?_
        refine lv_iload C.1 C.2.1 dX6_lower_87 (lv_at hl 3 rfl) ?_
        refine lv_aload_n C.1 C.2.1 dX6_lower_89 rfl (lv_at hl 1 rfl) ?_
        refine lv_iload C.1 C.2.1 dX6_lower_90 (lv_at hl 3 rfl) ?_
        refine zr_iald C w 6 (zw_g6 G _) dX6_lower_92 h (fun h => ?_)
        refine zr_iast C w 10 (zw_g10 G _) (zw_s10 G _) dX6_lower_93 h (fun S3 H locs w h => ?_)
        obtain ⟨v4, e_, h⟩ := zc_lt_x h
        refine lv_iinc (v := v4) (lv' := [(4, .int v4), (0, .ref (zg_q G 9)), (1, .ref (zg_q G 6)), (3, .int f3)]) C.1 C.2.1 dX6_lower_94 hl (k := 3) rfl (by subst e_; rfl) (by decide) rfl (fun ls hl => ?_)
        clear e_
        refine lv_goto (tgt := 31) C.1 C.2.1 dX6_lower_97 (by decide) ?_
        exact ih _ _ h _ _ _ w (lv_sub hl [1, 2, 3, 0] rfl)
      · refine lv_aload_n C.1 C.2.1 dX6_lower_43 rfl (lv_at hl 0 rfl) ?_
        refine zr_get C w 9 zm_w_X6 (zw_g9 G _) rfl 0 (by decide) zm_f_X6_9 rfl dX6_lower_44 ?_
        refine lv_iload C.1 C.2.1 dX6_lower_47 (lv_at hl 3 rfl) ?_
        refine lv_aload_n C.1 C.2.1 dX6_lower_49 rfl (lv_at hl 1 rfl) ?_
        refine lv_iload C.1 C.2.1 dX6_lower_50 (lv_at hl 3 rfl) ?_
        refine zr_iald C w 6 (zw_g6 G _) dX6_lower_52 h (fun h => ?_)
        refine lv_sipush (v := 16384) C.1 C.2.1 dX6_lower_53 (by decide) ?_
        refine lv_iload_n C.1 C.2.1 dX6_lower_56 rfl (lv_at hl 2 rfl) ?_
        refine lv_iconst (v := 1) C.1 C.2.1 dX6_lower_57 (by decide) ?_
        refine lv_isub C.1 C.2.1 dX6_lower_58 ?_
        refine lv_ishr C.1 C.2.1 dX6_lower_59 ?_
        refine zr_callSi C w (As := [.int (S.1 6 (Int32.toNatClampNeg x4)), .int ((16384 : Int32) >>> ((f3 - (1 : Int32)) &&& 31))]) (zm_X4_rounded l G _ _ _ _ rfl) zm_c_X4_rounded zm_l_X6_54 zm_s_X4_rounded zm_0_X4 zm_d_X4_rounded ⟨rfl, rfl⟩ ⟨Nat.le_of_ble_eq_true rfl, Nat.le_of_ble_eq_true rfl⟩ hl.1 rfl rfl (Nat.le_of_ble_eq_true rfl) dX6_lower_60 ⟨Nat.le_of_ble_eq_true rfl, Nat.le_of_ble_eq_true rfl⟩ (fun H locs w => ?_)
        refine zr_lti h (fun v5 h => ?_)
        refine zr_iast C w 10 (zw_g10 G _) (zw_s10 G _) dX6_lower_63 h (fun S6 H locs w h => ?_)
        refine lv_aload_n C.1 C.2.1 dX6_lower_64 rfl (lv_at hl 1 rfl) ?_
        refine lv_iload C.1 C.2.1 dX6_lower_65 (lv_at hl 3 rfl) ?_
        refine lv_aload_n C.1 C.2.1 dX6_lower_67 rfl (lv_at hl 0 rfl) ?_
        refine zr_get C w 9 zm_w_X6 (zw_g9 G _) rfl 0 (by decide) zm_f_X6_9 rfl dX6_lower_68 ?_
        refine lv_iload C.1 C.2.1 dX6_lower_71 (lv_at hl 3 rfl) ?_
        refine zr_iald C w 10 (zw_g10 G _) dX6_lower_73 h (fun h => ?_)
        refine lv_iload_n C.1 C.2.1 dX6_lower_74 rfl (lv_at hl 2 rfl) ?_
        refine lv_ishl C.1 C.2.1 dX6_lower_75 ?_
        refine zr_callSi C w (As := [.int ((S6.1 10 (Int32.toNatClampNeg x4)) <<< (f3 &&& 31))]) (zm_X4_cut l G _ _ _ rfl) zm_c_X4_cut zm_l_X6_57 zm_s_X4_cut zm_0_X4 zm_d_X4_cut ⟨rfl, rfl⟩ ⟨Nat.le_of_ble_eq_true rfl, Nat.le_of_ble_eq_true rfl⟩ hl.1 rfl rfl (Nat.le_of_ble_eq_true rfl) dX6_lower_76 ⟨Nat.le_of_ble_eq_true rfl, Nat.le_of_ble_eq_true rfl⟩ (fun H locs w => ?_)
        refine zr_lti h (fun v7 h => ?_)
        refine zr_iast C w 6 (zw_g6 G _) (zw_s6 G _) dX6_lower_79 h (fun S8 H locs w h => ?_)
        refine lv_goto (tgt := 94) C.1 C.2.1 dX6_lower_80 (by decide) ?_
        obtain ⟨v9, e_, h⟩ := zc_lt_x h
        refine lv_iinc (v := v9) (lv' := [(4, .int v9), (0, .ref (zg_q G 9)), (1, .ref (zg_q G 6)), (3, .int f3)]) C.1 C.2.1 dX6_lower_94 hl (k := 3) rfl (by subst e_; rfl) (by decide) rfl (fun ls hl => ?_)
        clear e_
        refine lv_goto (tgt := 31) C.1 C.2.1 dX6_lower_97 (by decide) ?_
        exact ih _ _ h _ _ _ w (lv_sub hl [1, 2, 3, 0] rfl)
set_option maxHeartbeats 4000000 in
set_option maxRecDepth 100000 in
theorem zq_X6_lower_27 {p : Program} {l : Launch} {e : Env} {s : State} {m : MethodId} {args : Array Value} {below : List Frame} {meth : Method} {c : Code} {G : zg_T} (hr : meth.sig.returnType = none) (C : zx_C p s m args meth c G RX6 cX6_lower 5) (S1 : zs_T) (S : zs_T) (z0 : Int32) (h : zj_X6_lower_27 S z0 = some S1) (H : Heap) (locs : List Loc) (ls : Array Slot) (w : zg_W G S s H locs) (hl : lv_has ls 5 [(0, .ref (zg_q G 9)), (1, .ref (zg_q G 6))]) : W p l e zr_m_X6_lower s m args below meth c H locs 0 0 (MQ below (zg_Q G none S1) args s 0 0 (zg_A G)) (F0 m 27 ls [.int z0]) := by
  unfold zj_X6_lower_27 at h
  refine lv_istore_n (lv' := [(3, .int z0), (0, .ref (zg_q G 9)), (1, .ref (zg_q G 6))]) C.1 C.2.1 dX6_lower_27 rfl hl (by decide) rfl (fun ls hl => ?_)
  refine lv_iconst (v := 0) C.1 C.2.1 dX6_lower_28 (by decide) ?_
  refine lv_istore (lv' := [(4, .int (0 : Int32)), (3, .int z0), (0, .ref (zg_q G 9)), (1, .ref (zg_q G 6))]) C.1 C.2.1 dX6_lower_29 hl (by decide) rfl (fun ls hl => ?_)
  obtain ⟨S10, hc, h⟩ := zc_b1_x h
  refine zk_X6_lower_31 C z0 S10 (fun H locs ls w hl => ?_) _ _ _ hc _ _ _ w (lv_sub hl [2, 3, 1, 0] rfl)
  clear hc
  exact zr_retv C w hr dX6_lower_100 (Option.some.inj h)
set_option maxHeartbeats 4000000 in
set_option maxRecDepth 100000 in
theorem zm_X6_lower (l : Launch) (G : zg_T) (S : zs_T) (S1 : zs_T) (h : zf_X6_lower S = some S1) : Met l yX6_lower (Cond.code yX6_lower cX6_lower 5 none :: zt_G) zr_m_X6_lower (va_Pc [.ref (zg_q G 9), .ref (zg_q G 6)] (zg_P G S)) (zg_Q G none S1) 0 0 (zg_A G) := by
  refine zx_met (by decide +kernel) (Nat.le_of_ble_eq_true rfl) (lv := [(0, .ref (zg_q G 9)), (1, .ref (zg_q G 6))]) rfl ?_
  intro p e s m below meth c C hr w ls hl
  replace C : zx_C p s m _ meth c G RX6 cX6_lower 5 := C
  unfold zf_X6_lower at h
  refine lv_aload_n C.1 C.2.1 dX6_lower_0 rfl (lv_at hl 1 rfl) ?_
  refine lv_iconst (v := 0) C.1 C.2.1 dX6_lower_1 (by decide) ?_
  refine lv_iconst (v := 1) C.1 C.2.1 dX6_lower_2 (by decide) ?_
  refine lv_sipush (v := 160) C.1 C.2.1 dX6_lower_3 (by decide) ?_
  obtain ⟨v1, hc, h⟩ := zc_b1_x h
  refine zr_callSi C w (As := [.ref (zg_q G 6), .int (0 : Int32), .int (1 : Int32), .int (160 : Int32)]) (zm_X4_greatestSize_6 l G _ _ _ _ _ hc) zm_c_X4_greatestSize zm_l_X6_45 zm_s_X4_greatestSize zm_0_X4 zm_d_X4_greatestSize ⟨rfl, rfl⟩ ⟨Nat.le_of_ble_eq_true rfl, Nat.le_of_ble_eq_true rfl⟩ hl.1 rfl rfl (Nat.le_of_ble_eq_true rfl) dX6_lower_6 ⟨Nat.le_of_ble_eq_true rfl, Nat.le_of_ble_eq_true rfl⟩ (fun H locs w => ?_)
  clear hc
  refine lv_istore_n (lv' := [(2, .int v1), (0, .ref (zg_q G 9)), (1, .ref (zg_q G 6))]) C.1 C.2.1 dX6_lower_9 rfl hl (by decide) rfl (fun ls hl => ?_)
  refine lv_iload_n C.1 C.2.1 dX6_lower_10 rfl (lv_at hl 0 rfl) ?_
  refine zr_if_ne (tgt := 18) C dX6_lower_11 (by decide) h (fun h => ?_) (fun h => ?_)
  · refine lv_iconst (v := 4) C.1 C.2.1 dX6_lower_18 (by decide) ?_
    refine lv_iload_n C.1 C.2.1 dX6_lower_19 rfl (lv_at hl 0 rfl) ?_
    refine lv_bipush (v := 16) C.1 C.2.1 dX6_lower_20 (by decide) ?_
    refine lv_ishl C.1 C.2.1 dX6_lower_22 ?_
    obtain ⟨v2, hc, h⟩ := zc_b1_x h
    refine zr_callSi C w (As := [.int (v1 <<< ((16 : Int32) &&& 31))]) (zm_X4_norm l G _ _ _ hc) zm_c_X4_norm zm_l_X6_51 zm_s_X4_norm zm_0_X4 zm_d_X4_norm ⟨rfl, rfl⟩ ⟨Nat.le_of_ble_eq_true rfl, Nat.le_of_ble_eq_true rfl⟩ hl.1 rfl rfl (Nat.le_of_ble_eq_true rfl) dX6_lower_23 ⟨Nat.le_of_ble_eq_true rfl, Nat.le_of_ble_eq_true rfl⟩ (fun H locs w => ?_)
    clear hc
    refine lv_isub C.1 C.2.1 dX6_lower_26 ?_
    exact zq_X6_lower_27 hr C _ _ _ h _ _ _ w (lv_sub hl [1, 2] rfl)
  · refine lv_iconst (v := 0) C.1 C.2.1 dX6_lower_14 (by decide) ?_
    refine lv_goto (tgt := 27) C.1 C.2.1 dX6_lower_15 (by decide) ?_
    exact zq_X6_lower_27 hr C _ _ _ h _ _ _ w (lv_sub hl [1, 2] rfl)
set_option maxHeartbeats 4000000 in
set_option maxRecDepth 100000 in
theorem zk_X6_correlate_12 {p : Program} {l : Launch} {e : Env} {s : State} {m : MethodId} {args : Array Value} {below : List Frame} {meth : Method} {c : Code} {G : zg_T} {Q : State → Prop} (C : zx_C p s m args meth c G RX6 cX6_correlate 4) (S : zs_T) (f1 : Int32) (o2 : Int32) (kont : ∀ (H : Heap) (locs : List Loc) (ls : Array Slot), zg_W G S s H locs → lv_has ls 4 [(0, .ref (zg_q G 9)), (1, .int f1), (2, .int o2)] → W p l e zr_m_X6_correlate s m args below meth c H locs 0 0 Q (F0 m 43 ls [])) : ∀ (n : Nat) (x2 : Int32) (x3 : Int32), zl_2 (zb_X6_correlate_12 S f1) n x2 x3 = some o2 → ∀ (H : Heap) (locs : List Loc) (ls : Array Slot), zg_W G S s H locs → lv_has ls 4 [(0, .ref (zg_q G 9)), (1, .int f1), (2, .int x2), (3, .int x3)] → W p l e zr_m_X6_correlate s m args below meth c H locs 0 0 Q (F0 m 12 ls []) := by
  intro n
  induction n with
  | zero => intro x2 x3 h; cases h
  | succ n ih =>
    intro x2 x3 h H locs ls w hl
    replace h : zb_X6_correlate_12 S f1 (zl_2 (zb_X6_correlate_12 S f1) n) x2 x3 = some o2 := h
    generalize zl_2 (zb_X6_correlate_12 S f1) n = rec at ih h
    unfold zb_X6_correlate_12 at h
    refine lv_iload_n C.1 C.2.1 dX6_correlate_12 rfl (lv_at hl 3 rfl) ?_
    refine lv_sipush (v := 160) C.1 C.2.1 dX6_correlate_13 (by decide) ?_
    refine zr_ic_ge (tgt := 43) C dX6_correlate_16 (by decide) h (fun h => ?_) (fun h => ?_)
    · cases h
      exact kont _ _ _ w (lv_sub hl [0, 1, 2] rfl)
    · refine lv_iload_n C.1 C.2.1 dX6_correlate_19 rfl (lv_at hl 2 rfl) ?_
      refine lv_aload_n C.1 C.2.1 dX6_correlate_20 rfl (lv_at hl 0 rfl) ?_
      refine zr_get C w 9 zm_w_X6 (zw_g9 G _) rfl 0 (by decide) zm_f_X6_9 rfl dX6_correlate_21 ?_
      refine lv_iload_n C.1 C.2.1 dX6_correlate_24 rfl (lv_at hl 3 rfl) ?_
      refine zr_iald C w 10 (zw_g10 G _) dX6_correlate_25 h (fun h => ?_)
      refine lv_aload_n C.1 C.2.1 dX6_correlate_26 rfl (lv_at hl 0 rfl) ?_
      refine zr_get C w 9 zm_w_X6 (zw_g9 G _) rfl 0 (by decide) zm_f_X6_9 rfl dX6_correlate_27 ?_
      refine lv_iload_n C.1 C.2.1 dX6_correlate_30 rfl (lv_at hl 3 rfl) ?_
      refine lv_iload_n C.1 C.2.1 dX6_correlate_31 rfl (lv_at hl 1 rfl) ?_
      refine lv_isub C.1 C.2.1 dX6_correlate_32 ?_
      refine zr_iald C w 10 (zw_g10 G _) dX6_correlate_33 h (fun h => ?_)
      refine lv_imul C.1 C.2.1 dX6_correlate_34 ?_
      refine lv_iadd C.1 C.2.1 dX6_correlate_35 ?_
      refine zr_lti h (fun v1 h => ?_)
      refine lv_istore_n (lv' := [(2, .int v1), (0, .ref (zg_q G 9)), (1, .int f1), (3, .int x3)]) C.1 C.2.1 dX6_correlate_36 rfl hl (by decide) rfl (fun ls hl => ?_)
      obtain ⟨v2, e_, h⟩ := zc_lt_x h
      refine lv_iinc (v := v2) (lv' := [(3, .int v2), (2, .int v1), (0, .ref (zg_q G 9)), (1, .int f1)]) C.1 C.2.1 dX6_correlate_37 hl (k := 3) rfl (by subst e_; rfl) (by decide) rfl (fun ls hl => ?_)
      clear e_
      refine lv_goto (tgt := 12) C.1 C.2.1 dX6_correlate_40 (by decide) ?_
      exact ih _ _ h _ _ _ w (lv_sub hl [2, 3, 1, 0] rfl)
set_option maxHeartbeats 4000000 in
set_option maxRecDepth 100000 in
theorem zk_X6_correlate_2 {p : Program} {l : Launch} {e : Env} {s : State} {m : MethodId} {args : Array Value} {below : List Frame} {meth : Method} {c : Code} {G : zg_T} {Q : State → Prop} (C : zx_C p s m args meth c G RX6 cX6_correlate 4) (oS : zs_T) (kont : ∀ (H : Heap) (locs : List Loc) (ls : Array Slot), zg_W G oS s H locs → lv_has ls 4 [] → W p l e zr_m_X6_correlate s m args below meth c H locs 0 0 Q (F0 m 58 ls [])) : ∀ (n : Nat) (S : zs_T) (x1 : Int32), zl_2 (zb_X6_correlate_2) n S x1 = some oS → ∀ (H : Heap) (locs : List Loc) (ls : Array Slot), zg_W G S s H locs → lv_has ls 4 [(0, .ref (zg_q G 9)), (1, .int x1)] → W p l e zr_m_X6_correlate s m args below meth c H locs 0 0 Q (F0 m 2 ls []) := by
  intro n
  induction n with
  | zero => intro S x1 h; cases h
  | succ n ih =>
    intro S x1 h H locs ls w hl
    replace h : zb_X6_correlate_2 (zl_2 (zb_X6_correlate_2) n) S x1 = some oS := h
    generalize zl_2 (zb_X6_correlate_2) n = rec at ih h
    unfold zb_X6_correlate_2 at h
    refine lv_iload_n C.1 C.2.1 dX6_correlate_2 rfl (lv_at hl 1 rfl) ?_
    refine lv_bipush (v := 8) C.1 C.2.1 dX6_correlate_3 (by decide) ?_
    refine zr_ic_gt (tgt := 58) C dX6_correlate_5 (by decide) h (fun h => ?_) (fun h => ?_)
    · cases h
      exact kont _ _ _ w (lv_sub hl [] rfl)
    · refine lv_iconst (v := 0) C.1 C.2.1 dX6_correlate_8 (by decide) ?_
      refine lv_istore_n (lv' := [(2, .int (0 : Int32)), (0, .ref (zg_q G 9)), (1, .int x1)]) C.1 C.2.1 dX6_correlate_9 rfl hl (by decide) rfl (fun ls hl => ?_)
      refine lv_iload_n C.1 C.2.1 dX6_correlate_10 rfl (lv_at hl 2 rfl) ?_
      refine lv_istore_n (lv' := [(3, .int x1), (2, .int (0 : Int32)), (0, .ref (zg_q G 9)), (1, .int x1)]) C.1 C.2.1 dX6_correlate_11 rfl hl (by decide) rfl (fun ls hl => ?_)
      obtain ⟨v3, hc, h⟩ := zc_b1_x h
      refine zk_X6_correlate_12 C _ x1 v3 (fun H locs ls w hl => ?_) _ _ _ hc _ _ _ w (lv_sub hl [2, 3, 1, 0] rfl)
      clear hc
      refine lv_aload_n C.1 C.2.1 dX6_correlate_43 rfl (lv_at hl 0 rfl) ?_
      refine zr_get C w 9 zm_w_X6 (zw_g9 G _) rfl 1 (by decide) zm_f_X6_15 rfl dX6_correlate_44 ?_
      refine lv_iload_n C.1 C.2.1 dX6_correlate_47 rfl (lv_at hl 1 rfl) ?_
      refine lv_iconst (v := 2) C.1 C.2.1 dX6_correlate_48 (by decide) ?_
      refine lv_iload_n C.1 C.2.1 dX6_correlate_49 rfl (lv_at hl 2 rfl) ?_
      refine lv_imul C.1 C.2.1 dX6_correlate_50 ?_
      refine zr_iast C w 11 (zw_g11 G _) (zw_s11 G _) dX6_correlate_51 h (fun S4 H locs w h => ?_)
      obtain ⟨v5, e_, h⟩ := zc_lt_x h
      refine lv_iinc (v := v5) (lv' := [(1, .int v5), (0, .ref (zg_q G 9)), (2, .int v3)]) C.1 C.2.1 dX6_correlate_52 hl (k := 1) rfl (by subst e_; rfl) (by decide) rfl (fun ls hl => ?_)
      clear e_
      refine lv_goto (tgt := 2) C.1 C.2.1 dX6_correlate_55 (by decide) ?_
      exact ih _ _ h _ _ _ w (lv_sub hl [1, 0] rfl)
set_option maxHeartbeats 4000000 in
set_option maxRecDepth 100000 in
theorem zm_X6_correlate (l : Launch) (G : zg_T) (S : zs_T) (S1 : zs_T) (h : zf_X6_correlate S = some S1) : Met l yX6_correlate (Cond.code yX6_correlate cX6_correlate 4 none :: zt_G) zr_m_X6_correlate (va_Pc [.ref (zg_q G 9)] (zg_P G S)) (zg_Q G none S1) 0 0 (zg_A G) := by
  refine zx_met (by decide +kernel) (Nat.le_of_ble_eq_true rfl) (lv := [(0, .ref (zg_q G 9))]) rfl ?_
  intro p e s m below meth c C hr w ls hl
  replace C : zx_C p s m _ meth c G RX6 cX6_correlate 4 := C
  unfold zf_X6_correlate at h
  refine lv_iconst (v := 0) C.1 C.2.1 dX6_correlate_0 (by decide) ?_
  refine lv_istore_n (lv' := [(1, .int (0 : Int32)), (0, .ref (zg_q G 9))]) C.1 C.2.1 dX6_correlate_1 rfl hl (by decide) rfl (fun ls hl => ?_)
  obtain ⟨S6, hc, h⟩ := zc_b1_x h
  refine zk_X6_correlate_2 C S6 (fun H locs ls w hl => ?_) _ _ _ hc _ _ _ w (lv_sub hl [1, 0] rfl)
  clear hc
  exact zr_retv C w hr dX6_correlate_58 (Option.some.inj h)
set_option maxHeartbeats 4000000 in
set_option maxRecDepth 100000 in
theorem zk_J7_fill_53178_5_14 {p : Program} {l : Launch} {e : Env} {s : State} {m : MethodId} {args : Array Value} {below : List Frame} {meth : Method} {c : Code} {G : zg_T} {Q : State → Prop} (C : zx_C p s m args meth c G RJ7 cJ7_fill_53178 4) (f1 : Int32) (f3 : Int32) (oS : zs_T) (kont : ∀ (H : Heap) (locs : List Loc) (ls : Array Slot), zg_W G oS s H locs → lv_has ls 4 [] → W p l e zr_m_J7_fill_53178 s m args below meth c H locs 0 0 Q (F0 m 20 ls [])) : ∀ (n : Nat) (S : zs_T) (x2 : Int32), zl_2 (zb_J7_fill_53178_5 14 8 f1 f3) n S x2 = some oS → ∀ (H : Heap) (locs : List Loc) (ls : Array Slot), zg_W G S s H locs → lv_has ls 4 [(0, .ref (zg_q G 14)), (1, .int f1), (2, .int x2), (3, .int f3)] → W p l e zr_m_J7_fill_53178 s m args below meth c H locs 0 0 Q (F0 m 5 ls []) := by
  intro n
  induction n with
  | zero => intro S x2 h; cases h
  | succ n ih =>
    intro S x2 h H locs ls w hl
    replace h : zb_J7_fill_53178_5 14 8 f1 f3 (zl_2 (zb_J7_fill_53178_5 14 8 f1 f3) n) S x2 = some oS := h
    generalize zl_2 (zb_J7_fill_53178_5 14 8 f1 f3) n = rec at ih h
    unfold zb_J7_fill_53178_5 at h
    refine lv_iload_n C.1 C.2.1 dJ7_fill_53178_5 rfl (lv_at hl 2 rfl) ?_
    refine lv_iload_n C.1 C.2.1 dJ7_fill_53178_6 rfl (lv_at hl 3 rfl) ?_
    refine zr_ic_ge (tgt := 20) C dJ7_fill_53178_7 (by decide) h (fun h => ?_) (fun h => ?_)
    · cases h
      exact kont _ _ _ w (lv_sub hl [] rfl)
    · refine lv_aload_n C.1 C.2.1 dJ7_fill_53178_10 rfl (lv_at hl 0 rfl) ?_
      refine lv_iload_n C.1 C.2.1 dJ7_fill_53178_11 rfl (lv_at hl 2 rfl) ?_
      refine lv_iload_n C.1 C.2.1 dJ7_fill_53178_12 rfl (lv_at hl 1 rfl) ?_
      refine zr_iast C w 14 (zw_g14 G _) (zw_s14 G _) dJ7_fill_53178_13 h (fun S2 H locs w h => ?_)
      obtain ⟨v3, e_, h⟩ := zc_lt_x h
      refine lv_iinc (v := v3) (lv' := [(2, .int v3), (0, .ref (zg_q G 14)), (1, .int f1), (3, .int f3)]) C.1 C.2.1 dJ7_fill_53178_14 hl (k := 2) rfl (by subst e_; rfl) (by decide) rfl (fun ls hl => ?_)
      clear e_
      refine lv_goto (tgt := 5) C.1 C.2.1 dJ7_fill_53178_17 (by decide) ?_
      exact ih _ _ h _ _ _ w (lv_sub hl [1, 2, 0, 3] rfl)
set_option maxHeartbeats 4000000 in
set_option maxRecDepth 100000 in
theorem zm_J7_fill_53178_14 (l : Launch) (G : zg_T) (S : zs_T) (a1 : Int32) (S1 : zs_T) (h : zf_J7_fill_53178 14 8 S a1 = some S1) : Met l yJ7_fill_53178 (Cond.code yJ7_fill_53178 cJ7_fill_53178 4 none :: zt_G) zr_m_J7_fill_53178 (va_Pc [.ref (zg_q G 14), .int a1] (zg_P G S)) (zg_Q G none S1) 0 0 (zg_A G) := by
  refine zx_met (by decide +kernel) (Nat.le_of_ble_eq_true rfl) (lv := [(0, .ref (zg_q G 14)), (1, .int a1)]) rfl ?_
  intro p e s m below meth c C hr w ls hl
  replace C : zx_C p s m _ meth c G RJ7 cJ7_fill_53178 4 := C
  unfold zf_J7_fill_53178 at h
  refine lv_iconst (v := 0) C.1 C.2.1 dJ7_fill_53178_0 (by decide) ?_
  refine lv_istore_n (lv' := [(2, .int (0 : Int32)), (0, .ref (zg_q G 14)), (1, .int a1)]) C.1 C.2.1 dJ7_fill_53178_1 rfl hl (by decide) rfl (fun ls hl => ?_)
  refine lv_aload_n C.1 C.2.1 dJ7_fill_53178_2 rfl (lv_at hl 1 rfl) ?_
  refine zr_alen C w 14 (zw_g14 G _) rfl dJ7_fill_53178_3 ?_
  refine zr_lti h (fun v1 h => ?_)
  refine lv_istore_n (lv' := [(3, .int v1), (2, .int (0 : Int32)), (0, .ref (zg_q G 14)), (1, .int a1)]) C.1 C.2.1 dJ7_fill_53178_4 rfl hl (by decide) rfl (fun ls hl => ?_)
  obtain ⟨S4, hc, h⟩ := zc_b1_x h
  refine zk_J7_fill_53178_5_14 C a1 v1 S4 (fun H locs ls w hl => ?_) _ _ _ hc _ _ _ w (lv_sub hl [2, 3, 1, 0] rfl)
  clear hc
  exact zr_retv C w hr dJ7_fill_53178_20 (Option.some.inj h)
set_option maxHeartbeats 4000000 in
set_option maxRecDepth 100000 in
theorem zq_X6_reflection_34 {p : Program} {l : Launch} {e : Env} {s : State} {m : MethodId} {args : Array Value} {below : List Frame} {meth : Method} {c : Code} {G : zg_T} (hr : meth.sig.returnType = (some .int)) (C : zx_C p s m args meth c G RX6 cX6_reflection 4) (r : Int32) (S : zs_T) (y0 : Int32) (z0 : Int32) (h : zj_X6_reflection_34 y0 z0 = some r) (H : Heap) (locs : List Loc) (ls : Array Slot) (w : zg_W G S s H locs) (hl : lv_has ls 4 [(0, .int y0)]) : W p l e zr_m_X6_reflection s m args below meth c H locs 0 0 (MQ below (zg_Q G (some (.int r)) S) args s 0 0 (zg_A G)) (F0 m 34 ls [.int z0]) := by
  unfold zj_X6_reflection_34 at h
  refine lv_istore_n (lv' := [(3, .int z0), (0, .int y0)]) C.1 C.2.1 dX6_reflection_34 rfl hl (by decide) rfl (fun ls hl => ?_)
  refine lv_iload_n C.1 C.2.1 dX6_reflection_35 rfl (lv_at hl 1 rfl) ?_
  refine zr_if_le (tgt := 44) C dX6_reflection_36 (by decide) h (fun h => ?_) (fun h => ?_)
  · refine lv_iload_n C.1 C.2.1 dX6_reflection_44 rfl (lv_at hl 0 rfl) ?_
    exact zr_reti C w hr dX6_reflection_45 (Option.some.inj h) rfl
  · refine lv_iload_n C.1 C.2.1 dX6_reflection_39 rfl (lv_at hl 0 rfl) ?_
    refine lv_ineg C.1 C.2.1 dX6_reflection_40 ?_
    refine lv_goto (tgt := 45) C.1 C.2.1 dX6_reflection_41 (by decide) ?_
    exact zr_reti C w hr dX6_reflection_45 (Option.some.inj h) rfl
set_option maxHeartbeats 4000000 in
set_option maxRecDepth 100000 in
theorem zm_X6_reflection (l : Launch) (G : zg_T) (S : zs_T) (a1 : Int32) (a2 : Int32) (r : Int32) (h : zf_X6_reflection a1 a2 = some r) : Met l yX6_reflection (Cond.code yX6_reflection cX6_reflection 4 (some .int) :: zt_G) zr_m_X6_reflection (va_Pc [.int a1, .int a2] (zg_P G S)) (zg_Q G (some (.int r)) S) 0 0 (zg_A G) := by
  refine zx_met (by decide +kernel) (Nat.le_of_ble_eq_true rfl) (lv := [(0, .int a1), (1, .int a2)]) rfl ?_
  intro p e s m below meth c C hr w ls hl
  replace C : zx_C p s m _ meth c G RX6 cX6_reflection 4 := C
  unfold zf_X6_reflection at h
  refine lv_iload_n C.1 C.2.1 dX6_reflection_0 rfl (lv_at hl 0 rfl) ?_
  refine zr_if_eq (tgt := 8) C dX6_reflection_1 (by decide) h (fun h => ?_) (fun h => ?_)
  · refine lv_iconst (v := 0) C.1 C.2.1 dX6_reflection_8 (by decide) ?_
    exact zr_reti C w hr dX6_reflection_9 (Option.some.inj h) rfl
  · refine lv_iload_n C.1 C.2.1 dX6_reflection_4 rfl (lv_at hl 1 rfl) ?_
    refine zr_if_gt (tgt := 10) C dX6_reflection_5 (by decide) h (fun h => ?_) (fun h => ?_)
    · refine lv_iload_n C.1 C.2.1 dX6_reflection_10 rfl (lv_at hl 0 rfl) ?_
      refine zr_callSi C w (As := [.int a1]) (zm_X4_size l G _ _ _ rfl) zm_c_X4_size zm_l_X6_66 zm_s_X4_size zm_0_X4 zm_d_X4_size ⟨rfl, rfl⟩ ⟨Nat.le_of_ble_eq_true rfl, Nat.le_of_ble_eq_true rfl⟩ hl.1 rfl rfl (Nat.le_of_ble_eq_true rfl) dX6_reflection_11 ⟨Nat.le_of_ble_eq_true rfl, Nat.le_of_ble_eq_true rfl⟩ (fun H locs w => ?_)
      refine zr_lti h (fun v1 h => ?_)
      refine lv_ldc (v := 32768) C.1 C.2.1 C.2.2.2.1 (C.2.2.2.2.1 _ zm_k_X6_76) dX6_reflection_14 ?_
      refine lv_imul C.1 C.2.1 dX6_reflection_16 ?_
      refine lv_iload_n C.1 C.2.1 dX6_reflection_17 rfl (lv_at hl 1 rfl) ?_
      obtain ⟨n_, h⟩ := zc_nz_x h
      refine lv_idiv C.1 C.2.1 dX6_reflection_18 n_ ?_
      refine zr_lti h (fun v2 h => ?_)
      refine lv_istore_n (lv' := [(2, .int v2), (0, .int a1), (1, .int a2)]) C.1 C.2.1 dX6_reflection_19 rfl hl (by decide) rfl (fun ls hl => ?_)
      refine lv_iload_n C.1 C.2.1 dX6_reflection_20 rfl (lv_at hl 0 rfl) ?_
      refine lv_sipush (v := 32767) C.1 C.2.1 dX6_reflection_21 (by decide) ?_
      refine zr_ic_le (tgt := 33) C dX6_reflection_24 (by decide) h (fun h => ?_) (fun h => ?_)
      · refine lv_iload_n C.1 C.2.1 dX6_reflection_33 rfl (lv_at hl 0 rfl) ?_
        exact zq_X6_reflection_34 hr C _ _ _ _ h _ _ _ w (lv_sub hl [1] rfl)
      · refine lv_sipush (v := 32767) C.1 C.2.1 dX6_reflection_27 (by decide) ?_
        refine lv_goto (tgt := 34) C.1 C.2.1 dX6_reflection_30 (by decide) ?_
        exact zq_X6_reflection_34 hr C _ _ _ _ h _ _ _ w (lv_sub hl [1] rfl)
    · refine lv_iconst (v := 0) C.1 C.2.1 dX6_reflection_8 (by decide) ?_
      exact zr_reti C w hr dX6_reflection_9 (Option.some.inj h) rfl
set_option maxHeartbeats 4000000 in
set_option maxRecDepth 100000 in
theorem zk_X6_fold_28 {p : Program} {l : Launch} {e : Env} {s : State} {m : MethodId} {args : Array Value} {below : List Frame} {meth : Method} {c : Code} {G : zg_T} {Q : State → Prop} (C : zx_C p s m args meth c G RX6 cX6_fold 4) (f1 : Int32) (f2 : Int32) (oS : zs_T) (kont : ∀ (H : Heap) (locs : List Loc) (ls : Array Slot), zg_W G oS s H locs → lv_has ls 4 [] → W p l e zr_m_X6_fold s m args below meth c H locs 0 0 Q (F0 m 98 ls [])) : ∀ (n : Nat) (S : zs_T) (x3 : Int32), zl_2 (zb_X6_fold_28 f1 f2) n S x3 = some oS → ∀ (H : Heap) (locs : List Loc) (ls : Array Slot), zg_W G S s H locs → lv_has ls 4 [(0, .ref (zg_q G 9)), (1, .int f1), (2, .int f2), (3, .int x3)] → W p l e zr_m_X6_fold s m args below meth c H locs 0 0 Q (F0 m 28 ls []) := by
  intro n
  induction n with
  | zero => intro S x3 h; cases h
  | succ n ih =>
    intro S x3 h H locs ls w hl
    replace h : zb_X6_fold_28 f1 f2 (zl_2 (zb_X6_fold_28 f1 f2) n) S x3 = some oS := h
    generalize zl_2 (zb_X6_fold_28 f1 f2) n = rec at ih h
    unfold zb_X6_fold_28 at h
    refine lv_iload_n C.1 C.2.1 dX6_fold_28 rfl (lv_at hl 3 rfl) ?_
    refine lv_bipush (v := 8) C.1 C.2.1 dX6_fold_29 (by decide) ?_
    refine lv_iload_n C.1 C.2.1 dX6_fold_31 rfl (lv_at hl 1 rfl) ?_
    refine lv_isub C.1 C.2.1 dX6_fold_32 ?_
    refine zr_ic_gt (tgt := 98) C dX6_fold_33 (by decide) h (fun h => ?_) (fun h => ?_)
    · cases h
      exact kont _ _ _ w (lv_sub hl [] rfl)
    · refine lv_aload_n C.1 C.2.1 dX6_fold_36 rfl (lv_at hl 0 rfl) ?_
      refine zr_get C w 9 zm_w_X6 (zw_g9 G _) rfl 2 (by decide) zm_f_X6_18 rfl dX6_fold_37 ?_
      refine lv_iload_n C.1 C.2.1 dX6_fold_40 rfl (lv_at hl 3 rfl) ?_
      refine lv_aload_n C.1 C.2.1 dX6_fold_41 rfl (lv_at hl 0 rfl) ?_
      refine zr_get C w 9 zm_w_X6 (zw_g9 G _) rfl 2 (by decide) zm_f_X6_18 rfl dX6_fold_42 ?_
      refine lv_iload_n C.1 C.2.1 dX6_fold_45 rfl (lv_at hl 3 rfl) ?_
      refine lv_iconst (v := 1) C.1 C.2.1 dX6_fold_46 (by decide) ?_
      refine lv_iadd C.1 C.2.1 dX6_fold_47 ?_
      refine zr_iald C w 12 (zw_g12 G _) dX6_fold_48 h (fun h => ?_)
      refine lv_aload_n C.1 C.2.1 dX6_fold_49 rfl (lv_at hl 0 rfl) ?_
      refine zr_get C w 9 zm_w_X6 (zw_g9 G _) rfl 3 (by decide) zm_f_X6_21 rfl dX6_fold_50 ?_
      refine lv_iload_n C.1 C.2.1 dX6_fold_53 rfl (lv_at hl 3 rfl) ?_
      refine zr_iald C w 13 (zw_g13 G _) dX6_fold_54 h (fun h => ?_)
      refine lv_iload_n C.1 C.2.1 dX6_fold_55 rfl (lv_at hl 2 rfl) ?_
      refine zr_callSi C w (As := [.int (S.1 13 (Int32.toNatClampNeg x3)), .int f2]) (zm_X4_rounded l G _ _ _ _ rfl) zm_c_X4_rounded zm_l_X6_54 zm_s_X4_rounded zm_0_X4 zm_d_X4_rounded ⟨rfl, rfl⟩ ⟨Nat.le_of_ble_eq_true rfl, Nat.le_of_ble_eq_true rfl⟩ hl.1 rfl rfl (Nat.le_of_ble_eq_true rfl) dX6_fold_56 ⟨Nat.le_of_ble_eq_true rfl, Nat.le_of_ble_eq_true rfl⟩ (fun H locs w => ?_)
      refine zr_lti h (fun v4 h => ?_)
      refine lv_iadd C.1 C.2.1 dX6_fold_59 ?_
      refine zr_callSi C w (As := [.int ((S.1 12 (Int32.toNatClampNeg (x3 + (1 : Int32)))) + v4)]) (zm_X4_cut l G _ _ _ rfl) zm_c_X4_cut zm_l_X6_57 zm_s_X4_cut zm_0_X4 zm_d_X4_cut ⟨rfl, rfl⟩ ⟨Nat.le_of_ble_eq_true rfl, Nat.le_of_ble_eq_true rfl⟩ hl.1 rfl rfl (Nat.le_of_ble_eq_true rfl) dX6_fold_60 ⟨Nat.le_of_ble_eq_true rfl, Nat.le_of_ble_eq_true rfl⟩ (fun H locs w => ?_)
      refine zr_lti h (fun v5 h => ?_)
      refine zr_iast C w 12 (zw_g12 G _) (zw_s12 G _) dX6_fold_63 h (fun S6 H locs w h => ?_)
      refine lv_aload_n C.1 C.2.1 dX6_fold_64 rfl (lv_at hl 0 rfl) ?_
      refine zr_get C w 9 zm_w_X6 (zw_g9 G _) rfl 3 (by decide) zm_f_X6_21 rfl dX6_fold_65 ?_
      refine lv_iload_n C.1 C.2.1 dX6_fold_68 rfl (lv_at hl 3 rfl) ?_
      refine lv_aload_n C.1 C.2.1 dX6_fold_69 rfl (lv_at hl 0 rfl) ?_
      refine zr_get C w 9 zm_w_X6 (zw_g9 G _) rfl 3 (by decide) zm_f_X6_21 rfl dX6_fold_70 ?_
      refine lv_iload_n C.1 C.2.1 dX6_fold_73 rfl (lv_at hl 3 rfl) ?_
      refine zr_iald C w 13 (zw_g13 G _) dX6_fold_74 h (fun h => ?_)
      refine lv_aload_n C.1 C.2.1 dX6_fold_75 rfl (lv_at hl 0 rfl) ?_
      refine zr_get C w 9 zm_w_X6 (zw_g9 G _) rfl 2 (by decide) zm_f_X6_18 rfl dX6_fold_76 ?_
      refine lv_iload_n C.1 C.2.1 dX6_fold_79 rfl (lv_at hl 3 rfl) ?_
      refine lv_iconst (v := 1) C.1 C.2.1 dX6_fold_80 (by decide) ?_
      refine lv_iadd C.1 C.2.1 dX6_fold_81 ?_
      refine zr_iald C w 12 (zw_g12 G _) dX6_fold_82 h (fun h => ?_)
      refine lv_iload_n C.1 C.2.1 dX6_fold_83 rfl (lv_at hl 2 rfl) ?_
      refine zr_callSi C w (As := [.int (S6.1 12 (Int32.toNatClampNeg (x3 + (1 : Int32)))), .int f2]) (zm_X4_rounded l G _ _ _ _ rfl) zm_c_X4_rounded zm_l_X6_54 zm_s_X4_rounded zm_0_X4 zm_d_X4_rounded ⟨rfl, rfl⟩ ⟨Nat.le_of_ble_eq_true rfl, Nat.le_of_ble_eq_true rfl⟩ hl.1 rfl rfl (Nat.le_of_ble_eq_true rfl) dX6_fold_84 ⟨Nat.le_of_ble_eq_true rfl, Nat.le_of_ble_eq_true rfl⟩ (fun H locs w => ?_)
      refine zr_lti h (fun v7 h => ?_)
      refine lv_iadd C.1 C.2.1 dX6_fold_87 ?_
      refine zr_callSi C w (As := [.int ((S6.1 13 (Int32.toNatClampNeg x3)) + v7)]) (zm_X4_cut l G _ _ _ rfl) zm_c_X4_cut zm_l_X6_57 zm_s_X4_cut zm_0_X4 zm_d_X4_cut ⟨rfl, rfl⟩ ⟨Nat.le_of_ble_eq_true rfl, Nat.le_of_ble_eq_true rfl⟩ hl.1 rfl rfl (Nat.le_of_ble_eq_true rfl) dX6_fold_88 ⟨Nat.le_of_ble_eq_true rfl, Nat.le_of_ble_eq_true rfl⟩ (fun H locs w => ?_)
      refine zr_lti h (fun v8 h => ?_)
      refine zr_iast C w 13 (zw_g13 G _) (zw_s13 G _) dX6_fold_91 h (fun S9 H locs w h => ?_)
      obtain ⟨v10, e_, h⟩ := zc_lt_x h
      refine lv_iinc (v := v10) (lv' := [(3, .int v10), (0, .ref (zg_q G 9)), (1, .int f1), (2, .int f2)]) C.1 C.2.1 dX6_fold_92 hl (k := 3) rfl (by subst e_; rfl) (by decide) rfl (fun ls hl => ?_)
      clear e_
      refine lv_goto (tgt := 28) C.1 C.2.1 dX6_fold_95 (by decide) ?_
      exact ih _ _ h _ _ _ w (lv_sub hl [1, 2, 3, 0] rfl)
set_option maxHeartbeats 4000000 in
set_option maxRecDepth 100000 in
theorem zm_X6_fold (l : Launch) (G : zg_T) (S : zs_T) (a1 : Int32) (a2 : Int32) (S1 : zs_T) (h : zf_X6_fold S a1 a2 = some S1) : Met l yX6_fold (Cond.code yX6_fold cX6_fold 4 none :: zt_G) zr_m_X6_fold (va_Pc [.ref (zg_q G 9), .int a1, .int a2] (zg_P G S)) (zg_Q G none S1) 0 0 (zg_A G) := by
  refine zx_met (by decide +kernel) (Nat.le_of_ble_eq_true rfl) (lv := [(0, .ref (zg_q G 9)), (1, .int a1), (2, .int a2)]) rfl ?_
  intro p e s m below meth c C hr w ls hl
  replace C : zx_C p s m _ meth c G RX6 cX6_fold 4 := C
  unfold zf_X6_fold at h
  refine lv_aload_n C.1 C.2.1 dX6_fold_0 rfl (lv_at hl 0 rfl) ?_
  refine zr_get C w 9 zm_w_X6 (zw_g9 G _) rfl 2 (by decide) zm_f_X6_18 rfl dX6_fold_1 ?_
  refine lv_iconst (v := 0) C.1 C.2.1 dX6_fold_4 (by decide) ?_
  refine lv_aload_n C.1 C.2.1 dX6_fold_5 rfl (lv_at hl 0 rfl) ?_
  refine zr_get C w 9 zm_w_X6 (zw_g9 G _) rfl 2 (by decide) zm_f_X6_18 rfl dX6_fold_6 ?_
  refine lv_iconst (v := 0) C.1 C.2.1 dX6_fold_9 (by decide) ?_
  refine zr_iald C w 12 (zw_g12 G _) dX6_fold_10 h (fun h => ?_)
  refine lv_aload_n C.1 C.2.1 dX6_fold_11 rfl (lv_at hl 0 rfl) ?_
  refine zr_get C w 9 zm_w_X6 (zw_g9 G _) rfl 2 (by decide) zm_f_X6_18 rfl dX6_fold_12 ?_
  refine lv_iconst (v := 1) C.1 C.2.1 dX6_fold_15 (by decide) ?_
  refine zr_iald C w 12 (zw_g12 G _) dX6_fold_16 h (fun h => ?_)
  refine lv_iload_n C.1 C.2.1 dX6_fold_17 rfl (lv_at hl 2 rfl) ?_
  refine zr_callSi C w (As := [.int (S.1 12 (Int32.toNatClampNeg (1 : Int32))), .int a2]) (zm_X4_rounded l G _ _ _ _ rfl) zm_c_X4_rounded zm_l_X6_54 zm_s_X4_rounded zm_0_X4 zm_d_X4_rounded ⟨rfl, rfl⟩ ⟨Nat.le_of_ble_eq_true rfl, Nat.le_of_ble_eq_true rfl⟩ hl.1 rfl rfl (Nat.le_of_ble_eq_true rfl) dX6_fold_18 ⟨Nat.le_of_ble_eq_true rfl, Nat.le_of_ble_eq_true rfl⟩ (fun H locs w => ?_)
  refine zr_lti h (fun v1 h => ?_)
  refine lv_iadd C.1 C.2.1 dX6_fold_21 ?_
  refine zr_callSi C w (As := [.int ((S.1 12 (Int32.toNatClampNeg (0 : Int32))) + v1)]) (zm_X4_cut l G _ _ _ rfl) zm_c_X4_cut zm_l_X6_57 zm_s_X4_cut zm_0_X4 zm_d_X4_cut ⟨rfl, rfl⟩ ⟨Nat.le_of_ble_eq_true rfl, Nat.le_of_ble_eq_true rfl⟩ hl.1 rfl rfl (Nat.le_of_ble_eq_true rfl) dX6_fold_22 ⟨Nat.le_of_ble_eq_true rfl, Nat.le_of_ble_eq_true rfl⟩ (fun H locs w => ?_)
  refine zr_lti h (fun v2 h => ?_)
  refine zr_iast C w 12 (zw_g12 G _) (zw_s12 G _) dX6_fold_25 h (fun S3 H locs w h => ?_)
  refine lv_iconst (v := 1) C.1 C.2.1 dX6_fold_26 (by decide) ?_
  refine lv_istore_n (lv' := [(3, .int (1 : Int32)), (0, .ref (zg_q G 9)), (1, .int a1), (2, .int a2)]) C.1 C.2.1 dX6_fold_27 rfl hl (by decide) rfl (fun ls hl => ?_)
  obtain ⟨S11, hc, h⟩ := zc_b1_x h
  refine zk_X6_fold_28 C a1 a2 S11 (fun H locs ls w hl => ?_) _ _ _ hc _ _ _ w (lv_sub hl [1, 2, 3, 0] rfl)
  clear hc
  exact zr_retv C w hr dX6_fold_98 (Option.some.inj h)
set_option maxHeartbeats 4000000 in
set_option maxRecDepth 100000 in
theorem zk_X6_reflect_30 {p : Program} {l : Launch} {e : Env} {s : State} {m : MethodId} {args : Array Value} {below : List Frame} {meth : Method} {c : Code} {G : zg_T} {Q : State → Prop} (C : zx_C p s m args meth c G RX6 cX6_reflect 3) (f1 : Int32) (oS : zs_T) (kont : ∀ (H : Heap) (locs : List Loc) (ls : Array Slot), zg_W G oS s H locs → lv_has ls 3 [(0, .ref (zg_q G 9))] → W p l e zr_m_X6_reflect s m args below meth c H locs 0 0 Q (F0 m 71 ls [])) : ∀ (n : Nat) (S : zs_T) (x2 : Int32), zl_2 (zb_X6_reflect_30 f1) n S x2 = some oS → ∀ (H : Heap) (locs : List Loc) (ls : Array Slot), zg_W G S s H locs → lv_has ls 3 [(0, .ref (zg_q G 9)), (1, .int f1), (2, .int x2)] → W p l e zr_m_X6_reflect s m args below meth c H locs 0 0 Q (F0 m 30 ls []) := by
  intro n
  induction n with
  | zero => intro S x2 h; cases h
  | succ n ih =>
    intro S x2 h H locs ls w hl
    replace h : zb_X6_reflect_30 f1 (zl_2 (zb_X6_reflect_30 f1) n) S x2 = some oS := h
    generalize zl_2 (zb_X6_reflect_30 f1) n = rec at ih h
    unfold zb_X6_reflect_30 at h
    refine lv_iload_n C.1 C.2.1 dX6_reflect_30 rfl (lv_at hl 2 rfl) ?_
    refine lv_bipush (v := 8) C.1 C.2.1 dX6_reflect_31 (by decide) ?_
    refine zr_ic_gt (tgt := 71) C dX6_reflect_33 (by decide) h (fun h => ?_) (fun h => ?_)
    · cases h
      exact kont _ _ _ w (lv_sub hl [0] rfl)
    · refine lv_aload_n C.1 C.2.1 dX6_reflect_36 rfl (lv_at hl 0 rfl) ?_
      refine zr_get C w 9 zm_w_X6 (zw_g9 G _) rfl 2 (by decide) zm_f_X6_18 rfl dX6_reflect_37 ?_
      refine lv_iload_n C.1 C.2.1 dX6_reflect_40 rfl (lv_at hl 2 rfl) ?_
      refine lv_aload_n C.1 C.2.1 dX6_reflect_41 rfl (lv_at hl 0 rfl) ?_
      refine zr_get C w 9 zm_w_X6 (zw_g9 G _) rfl 1 (by decide) zm_f_X6_15 rfl dX6_reflect_42 ?_
      refine lv_iload_n C.1 C.2.1 dX6_reflect_45 rfl (lv_at hl 2 rfl) ?_
      refine zr_iald C w 11 (zw_g11 G _) dX6_reflect_46 h (fun h => ?_)
      refine lv_iload_n C.1 C.2.1 dX6_reflect_47 rfl (lv_at hl 1 rfl) ?_
      refine lv_ishl C.1 C.2.1 dX6_reflect_48 ?_
      refine lv_bipush (v := 16) C.1 C.2.1 dX6_reflect_49 (by decide) ?_
      refine lv_ishr C.1 C.2.1 dX6_reflect_51 ?_
      refine zr_iast C w 12 (zw_g12 G _) (zw_s12 G _) dX6_reflect_52 h (fun S3 H locs w h => ?_)
      refine lv_aload_n C.1 C.2.1 dX6_reflect_53 rfl (lv_at hl 0 rfl) ?_
      refine zr_get C w 9 zm_w_X6 (zw_g9 G _) rfl 3 (by decide) zm_f_X6_21 rfl dX6_reflect_54 ?_
      refine lv_iload_n C.1 C.2.1 dX6_reflect_57 rfl (lv_at hl 2 rfl) ?_
      refine lv_aload_n C.1 C.2.1 dX6_reflect_58 rfl (lv_at hl 0 rfl) ?_
      refine zr_get C w 9 zm_w_X6 (zw_g9 G _) rfl 2 (by decide) zm_f_X6_18 rfl dX6_reflect_59 ?_
      refine lv_iload_n C.1 C.2.1 dX6_reflect_62 rfl (lv_at hl 2 rfl) ?_
      refine zr_iald C w 12 (zw_g12 G _) dX6_reflect_63 h (fun h => ?_)
      refine zr_iast C w 13 (zw_g13 G _) (zw_s13 G _) dX6_reflect_64 h (fun S4 H locs w h => ?_)
      obtain ⟨v5, e_, h⟩ := zc_lt_x h
      refine lv_iinc (v := v5) (lv' := [(2, .int v5), (0, .ref (zg_q G 9)), (1, .int f1)]) C.1 C.2.1 dX6_reflect_65 hl (k := 2) rfl (by subst e_; rfl) (by decide) rfl (fun ls hl => ?_)
      clear e_
      refine lv_goto (tgt := 30) C.1 C.2.1 dX6_reflect_68 (by decide) ?_
      exact ih _ _ h _ _ _ w (lv_sub hl [1, 2, 0] rfl)
set_option maxHeartbeats 4000000 in
set_option maxRecDepth 100000 in
theorem zk_X6_reflect_73 {p : Program} {l : Launch} {e : Env} {s : State} {m : MethodId} {args : Array Value} {below : List Frame} {meth : Method} {c : Code} {G : zg_T} (hr : meth.sig.returnType = none) (S1 : zs_T) (C : zx_C p s m args meth c G RX6 cX6_reflect 3) (o : ((zs_T) ⊕ zs_T)) (hor : ∀ r_, o = Sum.inr r_ → r_ = S1) (kont : ∀ (oS : zs_T), o = Sum.inl (oS) → ∀ (H : Heap) (locs : List Loc) (ls : Array Slot), zg_W G oS s H locs → lv_has ls 3 [] → W p l e zr_m_X6_reflect s m args below meth c H locs 0 0 (MQ below (zg_Q G none S1) args s 0 0 (zg_A G)) (F0 m 140 ls [])) : ∀ (n : Nat) (S : zs_T) (x2 : Int32), zl_2 (zb_X6_reflect_73) n S x2 = some o → ∀ (H : Heap) (locs : List Loc) (ls : Array Slot), zg_W G S s H locs → lv_has ls 3 [(0, .ref (zg_q G 9)), (2, .int x2)] → W p l e zr_m_X6_reflect s m args below meth c H locs 0 0 (MQ below (zg_Q G none S1) args s 0 0 (zg_A G)) (F0 m 73 ls []) := by
  intro n
  induction n with
  | zero => intro S x2 h; cases h
  | succ n ih =>
    intro S x2 h H locs ls w hl
    replace h : zb_X6_reflect_73 (zl_2 (zb_X6_reflect_73) n) S x2 = some o := h
    generalize zl_2 (zb_X6_reflect_73) n = rec at ih h
    unfold zb_X6_reflect_73 at h
    refine lv_iload_n C.1 C.2.1 dX6_reflect_73 rfl (lv_at hl 1 rfl) ?_
    refine lv_bipush (v := 8) C.1 C.2.1 dX6_reflect_74 (by decide) ?_
    refine zr_ic_gt (tgt := 140) C dX6_reflect_76 (by decide) h (fun h => ?_) (fun h => ?_)
    · exact kont _ (Option.some.inj h).symm _ _ _ w (lv_sub hl [] rfl)
    · refine lv_aload_n C.1 C.2.1 dX6_reflect_79 rfl (lv_at hl 0 rfl) ?_
      refine zr_get C w 9 zm_w_X6 (zw_g9 G _) rfl 2 (by decide) zm_f_X6_18 rfl dX6_reflect_80 ?_
      refine lv_iconst (v := 0) C.1 C.2.1 dX6_reflect_83 (by decide) ?_
      refine zr_iald C w 12 (zw_g12 G _) dX6_reflect_84 h (fun h => ?_)
      refine lv_aload_n C.1 C.2.1 dX6_reflect_85 rfl (lv_at hl 0 rfl) ?_
      refine zr_get C w 9 zm_w_X6 (zw_g9 G _) rfl 2 (by decide) zm_f_X6_18 rfl dX6_reflect_86 ?_
      refine lv_iconst (v := 1) C.1 C.2.1 dX6_reflect_89 (by decide) ?_
      refine zr_iald C w 12 (zw_g12 G _) dX6_reflect_90 h (fun h => ?_)
      refine zr_callSi C w (As := [.int (S.1 12 (Int32.toNatClampNeg (1 : Int32)))]) (zm_X4_size l G _ _ _ rfl) zm_c_X4_size zm_l_X6_66 zm_s_X4_size zm_0_X4 zm_d_X4_size ⟨rfl, rfl⟩ ⟨Nat.le_of_ble_eq_true rfl, Nat.le_of_ble_eq_true rfl⟩ hl.1 rfl rfl (Nat.le_of_ble_eq_true rfl) dX6_reflect_91 ⟨Nat.le_of_ble_eq_true rfl, Nat.le_of_ble_eq_true rfl⟩ (fun H locs w => ?_)
      refine zr_lti h (fun v7 h => ?_)
      refine zr_ic_ge (tgt := 98) C dX6_reflect_94 (by decide) h (fun h => ?_) (fun h => ?_)
      · refine lv_aload_n C.1 C.2.1 dX6_reflect_98 rfl (lv_at hl 0 rfl) ?_
        refine zr_get C w 9 zm_w_X6 (zw_g9 G _) rfl 4 (by decide) zm_f_X6_24 rfl dX6_reflect_99 ?_
        refine lv_iload_n C.1 C.2.1 dX6_reflect_102 rfl (lv_at hl 1 rfl) ?_
        refine lv_iconst (v := 1) C.1 C.2.1 dX6_reflect_103 (by decide) ?_
        refine lv_isub C.1 C.2.1 dX6_reflect_104 ?_
        refine lv_aload_n C.1 C.2.1 dX6_reflect_105 rfl (lv_at hl 0 rfl) ?_
        refine zr_get C w 9 zm_w_X6 (zw_g9 G _) rfl 2 (by decide) zm_f_X6_18 rfl dX6_reflect_106 ?_
        refine lv_iconst (v := 1) C.1 C.2.1 dX6_reflect_109 (by decide) ?_
        refine zr_iald C w 12 (zw_g12 G _) dX6_reflect_110 h (fun h => ?_)
        refine lv_aload_n C.1 C.2.1 dX6_reflect_111 rfl (lv_at hl 0 rfl) ?_
        refine zr_get C w 9 zm_w_X6 (zw_g9 G _) rfl 2 (by decide) zm_f_X6_18 rfl dX6_reflect_112 ?_
        refine lv_iconst (v := 0) C.1 C.2.1 dX6_reflect_115 (by decide) ?_
        refine zr_iald C w 12 (zw_g12 G _) dX6_reflect_116 h (fun h => ?_)
        obtain ⟨v8, hc, h⟩ := zc_b1_x h
        refine zr_callSi C w (As := [.int (S.1 12 (Int32.toNatClampNeg (1 : Int32))), .int (S.1 12 (Int32.toNatClampNeg (0 : Int32)))]) (zm_X6_reflection l G _ _ _ _ hc) zm_c_X6_reflection zm_l_X6_69 zm_s_X6_reflection zm_0_X6 zm_d_X6_reflection ⟨rfl, rfl⟩ ⟨Nat.le_of_ble_eq_true rfl, Nat.le_of_ble_eq_true rfl⟩ hl.1 rfl rfl (Nat.le_of_ble_eq_true rfl) dX6_reflect_117 ⟨Nat.le_of_ble_eq_true rfl, Nat.le_of_ble_eq_true rfl⟩ (fun H locs w => ?_)
        clear hc
        refine zr_iast C w 14 (zw_g14 G _) (zw_s14 G _) dX6_reflect_120 h (fun S9 H locs w h => ?_)
        refine lv_aload_n C.1 C.2.1 dX6_reflect_121 rfl (lv_at hl 0 rfl) ?_
        refine lv_iload_n C.1 C.2.1 dX6_reflect_122 rfl (lv_at hl 1 rfl) ?_
        refine lv_aload_n C.1 C.2.1 dX6_reflect_123 rfl (lv_at hl 0 rfl) ?_
        refine zr_get C w 9 zm_w_X6 (zw_g9 G _) rfl 4 (by decide) zm_f_X6_24 rfl dX6_reflect_124 ?_
        refine lv_iload_n C.1 C.2.1 dX6_reflect_127 rfl (lv_at hl 1 rfl) ?_
        refine lv_iconst (v := 1) C.1 C.2.1 dX6_reflect_128 (by decide) ?_
        refine lv_isub C.1 C.2.1 dX6_reflect_129 ?_
        refine zr_iald C w 14 (zw_g14 G _) dX6_reflect_130 h (fun h => ?_)
        obtain ⟨S10, hc, h⟩ := zc_b1_x h
        refine zr_callVv C w 9 (zw_g9 G _) rfl (As := [.int x2, .int (S9.1 14 (Int32.toNatClampNeg (x2 - (1 : Int32))))]) (zm_X6_fold l G _ _ _ _ hc) zm_c_X6_fold zm_l_X6_72 zm_i_X6_fold zm_e_X6_fold zm_0_X6 zm_d_X6_fold ⟨rfl, rfl⟩ ⟨Nat.le_of_ble_eq_true rfl, Nat.le_of_ble_eq_true rfl⟩ hl.1 rfl rfl (Nat.le_of_ble_eq_true rfl) dX6_reflect_131 ⟨Nat.le_of_ble_eq_true rfl, Nat.le_of_ble_eq_true rfl⟩ (fun H locs w => ?_)
        clear hc
        obtain ⟨v11, e_, h⟩ := zc_lt_x h
        refine lv_iinc (v := v11) (lv' := [(2, .int v11), (0, .ref (zg_q G 9))]) C.1 C.2.1 dX6_reflect_134 hl (k := 1) rfl (by subst e_; rfl) (by decide) rfl (fun ls hl => ?_)
        clear e_
        refine lv_goto (tgt := 73) C.1 C.2.1 dX6_reflect_137 (by decide) ?_
        exact ih _ _ h _ _ _ w (lv_sub hl [1, 0] rfl)
      · exact zr_retv C w hr dX6_reflect_97 (hor _ (Option.some.inj h).symm)
set_option maxHeartbeats 4000000 in
set_option maxRecDepth 100000 in
theorem zm_X6_reflect (l : Launch) (G : zg_T) (S : zs_T) (S1 : zs_T) (h : zf_X6_reflect S = some S1) : Met l yX6_reflect (Cond.code yX6_reflect cX6_reflect 3 none :: zt_G) zr_m_X6_reflect (va_Pc [.ref (zg_q G 9)] (zg_P G S)) (zg_Q G none S1) 0 0 (zg_A G) := by
  refine zx_met (by decide +kernel) (Nat.le_of_ble_eq_true rfl) (lv := [(0, .ref (zg_q G 9))]) rfl ?_
  intro p e s m below meth c C hr w ls hl
  replace C : zx_C p s m _ meth c G RX6 cX6_reflect 3 := C
  unfold zf_X6_reflect at h
  refine lv_aload_n C.1 C.2.1 dX6_reflect_0 rfl (lv_at hl 0 rfl) ?_
  refine zr_get C w 9 zm_w_X6 (zw_g9 G _) rfl 4 (by decide) zm_f_X6_24 rfl dX6_reflect_1 ?_
  refine lv_iconst (v := 0) C.1 C.2.1 dX6_reflect_4 (by decide) ?_
  obtain ⟨S1, hc, h⟩ := zc_b1_x h
  refine zr_callSv C w (As := [.ref (zg_q G 14), .int (0 : Int32)]) (zm_J7_fill_53178_14 l G _ _ _ hc) zm_c_J7_fill_53178 zm_l_X6_60 zm_s_J7_fill_53178 zm_0_J7 zm_d_J7_fill_53178 ⟨rfl, rfl⟩ ⟨Nat.le_of_ble_eq_true rfl, Nat.le_of_ble_eq_true rfl⟩ hl.1 rfl rfl (Nat.le_of_ble_eq_true rfl) dX6_reflect_5 ⟨Nat.le_of_ble_eq_true rfl, Nat.le_of_ble_eq_true rfl⟩ (fun H locs w => ?_)
  clear hc
  refine lv_aload_n C.1 C.2.1 dX6_reflect_8 rfl (lv_at hl 0 rfl) ?_
  refine zr_get C w 9 zm_w_X6 (zw_g9 G _) rfl 1 (by decide) zm_f_X6_15 rfl dX6_reflect_9 ?_
  refine lv_iconst (v := 0) C.1 C.2.1 dX6_reflect_12 (by decide) ?_
  refine zr_iald C w 11 (zw_g11 G _) dX6_reflect_13 h (fun h => ?_)
  refine zr_if_ne (tgt := 18) C dX6_reflect_14 (by decide) h (fun h => ?_) (fun h => ?_)
  · refine lv_aload_n C.1 C.2.1 dX6_reflect_18 rfl (lv_at hl 0 rfl) ?_
    refine zr_get C w 9 zm_w_X6 (zw_g9 G _) rfl 1 (by decide) zm_f_X6_15 rfl dX6_reflect_19 ?_
    refine lv_iconst (v := 0) C.1 C.2.1 dX6_reflect_22 (by decide) ?_
    refine zr_iald C w 11 (zw_g11 G _) dX6_reflect_23 h (fun h => ?_)
    obtain ⟨v2, hc, h⟩ := zc_b1_x h
    refine zr_callSi C w (As := [.int (S1.1 11 (Int32.toNatClampNeg (0 : Int32)))]) (zm_X4_norm l G _ _ _ hc) zm_c_X4_norm zm_l_X6_51 zm_s_X4_norm zm_0_X4 zm_d_X4_norm ⟨rfl, rfl⟩ ⟨Nat.le_of_ble_eq_true rfl, Nat.le_of_ble_eq_true rfl⟩ hl.1 rfl rfl (Nat.le_of_ble_eq_true rfl) dX6_reflect_24 ⟨Nat.le_of_ble_eq_true rfl, Nat.le_of_ble_eq_true rfl⟩ (fun H locs w => ?_)
    clear hc
    refine lv_istore_n (lv' := [(1, .int v2), (0, .ref (zg_q G 9))]) C.1 C.2.1 dX6_reflect_27 rfl hl (by decide) rfl (fun ls hl => ?_)
    refine lv_iconst (v := 0) C.1 C.2.1 dX6_reflect_28 (by decide) ?_
    refine lv_istore_n (lv' := [(2, .int (0 : Int32)), (1, .int v2), (0, .ref (zg_q G 9))]) C.1 C.2.1 dX6_reflect_29 rfl hl (by decide) rfl (fun ls hl => ?_)
    obtain ⟨S6, hc, h⟩ := zc_b1_x h
    refine zk_X6_reflect_30 C v2 S6 (fun H locs ls w hl => ?_) _ _ _ hc _ _ _ w (lv_sub hl [2, 1, 0] rfl)
    clear hc
    refine lv_iconst (v := 1) C.1 C.2.1 dX6_reflect_71 (by decide) ?_
    refine lv_istore_n (lv' := [(2, .int (1 : Int32)), (0, .ref (zg_q G 9))]) C.1 C.2.1 dX6_reflect_72 rfl hl (by decide) rfl (fun ls hl => ?_)
    obtain ⟨o_, hc, h⟩ := zc_s1_x h
    refine zk_X6_reflect_73 hr _ C o_ h.2 (fun S12 e_ H locs ls w hl => ?_) _ _ _ hc _ _ _ w (lv_sub hl [1, 0] rfl)
    replace h := h.1 _ e_
    clear e_ hc
    exact zr_retv C w hr dX6_reflect_140 (Option.some.inj h)
  · exact zr_retv C w hr dX6_reflect_17 (Option.some.inj h)
set_option maxHeartbeats 4000000 in
set_option maxRecDepth 100000 in
theorem zm_X4_withSignOf (l : Launch) (G : zg_T) (S : zs_T) (a1 : Int32) (a2 : Int32) (r : Int32) (h : zf_X4_withSignOf a1 a2 = r) : Met l yX4_withSignOf (Cond.code yX4_withSignOf cX4_withSignOf 2 (some .int) :: zt_G) zr_m_X4_withSignOf (va_Pc [.int a1, .int a2] (zg_P G S)) (zg_Q G (some (.int r)) S) 0 0 (zg_A G) := by
  refine zx_met (by decide +kernel) (Nat.le_of_ble_eq_true rfl) (lv := [(0, .int a1), (1, .int a2)]) rfl ?_
  intro p e s m below meth c C hr w ls hl
  replace C : zx_C p s m _ meth c G RX4 cX4_withSignOf 2 := C
  unfold zf_X4_withSignOf at h
  refine lv_iload_n C.1 C.2.1 dX4_withSignOf_0 rfl (lv_at hl 0 rfl) ?_
  refine zr_if_ge (tgt := 9) C dX4_withSignOf_1 (by decide) h (fun h => ?_) (fun h => ?_)
  · refine lv_iload_n C.1 C.2.1 dX4_withSignOf_9 rfl (lv_at hl 1 rfl) ?_
    exact zr_reti C w hr dX4_withSignOf_10 h rfl
  · refine lv_iload_n C.1 C.2.1 dX4_withSignOf_4 rfl (lv_at hl 1 rfl) ?_
    refine lv_ineg C.1 C.2.1 dX4_withSignOf_5 ?_
    refine lv_goto (tgt := 10) C.1 C.2.1 dX4_withSignOf_6 (by decide) ?_
    exact zr_reti C w hr dX4_withSignOf_10 h rfl
set_option maxHeartbeats 4000000 in
set_option maxRecDepth 100000 in
theorem zm_X6_bent (l : Launch) (G : zg_T) (S : zs_T) (a1 : Int32) (r : Int32) (h : zf_X6_bent a1 = r) : Met l yX6_bent (Cond.code yX6_bent cX6_bent 3 (some .int) :: zt_G) zr_m_X6_bent (va_Pc [.int a1] (zg_P G S)) (zg_Q G (some (.int r)) S) 0 0 (zg_A G) := by
  refine zx_met (by decide +kernel) (Nat.le_of_ble_eq_true rfl) (lv := [(0, .int a1)]) rfl ?_
  intro p e s m below meth c C hr w ls hl
  replace C : zx_C p s m _ meth c G RX6 cX6_bent 3 := C
  unfold zf_X6_bent at h
  refine lv_iload_n C.1 C.2.1 dX6_bent_0 rfl (lv_at hl 0 rfl) ?_
  refine zr_callSi C w (As := [.int a1]) (zm_X4_size l G _ _ _ rfl) zm_c_X4_size zm_l_X6_66 zm_s_X4_size zm_0_X4 zm_d_X4_size ⟨rfl, rfl⟩ ⟨Nat.le_of_ble_eq_true rfl, Nat.le_of_ble_eq_true rfl⟩ hl.1 rfl rfl (Nat.le_of_ble_eq_true rfl) dX6_bent_1 ⟨Nat.le_of_ble_eq_true rfl, Nat.le_of_ble_eq_true rfl⟩ (fun H locs w => ?_)
  refine zr_lti h (fun v1 h => ?_)
  refine lv_istore_n (lv' := [(1, .int v1), (0, .int a1)]) C.1 C.2.1 dX6_bent_4 rfl hl (by decide) rfl (fun ls hl => ?_)
  refine lv_iload_n C.1 C.2.1 dX6_bent_5 rfl (lv_at hl 0 rfl) ?_
  refine lv_sipush (v := 22118) C.1 C.2.1 dX6_bent_6 (by decide) ?_
  refine zr_ic_ge (tgt := 18) C dX6_bent_9 (by decide) h (fun h => ?_) (fun h => ?_)
  · refine lv_iload_n C.1 C.2.1 dX6_bent_18 rfl (lv_at hl 0 rfl) ?_
    refine lv_sipush (v := 31130) C.1 C.2.1 dX6_bent_19 (by decide) ?_
    refine zr_ic_ge (tgt := 33) C dX6_bent_22 (by decide) h (fun h => ?_) (fun h => ?_)
    · refine lv_iload_n C.1 C.2.1 dX6_bent_33 rfl (lv_at hl 0 rfl) ?_
      refine lv_sipush (v := 26112) C.1 C.2.1 dX6_bent_34 (by decide) ?_
      refine lv_isub C.1 C.2.1 dX6_bent_37 ?_
      refine lv_iconst (v := 4) C.1 C.2.1 dX6_bent_38 (by decide) ?_
      refine lv_imul C.1 C.2.1 dX6_bent_39 ?_
      refine zr_lti h (fun v2 h => ?_)
      refine lv_istore_n (lv' := [(2, .int v2), (1, .int v1), (0, .int a1)]) C.1 C.2.1 dX6_bent_40 rfl hl (by decide) rfl (fun ls hl => ?_)
      refine lv_iload_n C.1 C.2.1 dX6_bent_41 rfl (lv_at hl 2 rfl) ?_
      refine lv_iload_n C.1 C.2.1 dX6_bent_42 rfl (lv_at hl 0 rfl) ?_
      refine zr_callSi C w (As := [.int a1, .int v2]) (zm_X4_withSignOf l G _ _ _ _ rfl) zm_c_X4_withSignOf zm_l_X6_77 zm_s_X4_withSignOf zm_0_X4 zm_d_X4_withSignOf ⟨rfl, rfl⟩ ⟨Nat.le_of_ble_eq_true rfl, Nat.le_of_ble_eq_true rfl⟩ hl.1 rfl rfl (Nat.le_of_ble_eq_true rfl) dX6_bent_43 ⟨Nat.le_of_ble_eq_true rfl, Nat.le_of_ble_eq_true rfl⟩ (fun H locs w => ?_)
      refine zr_lti h (fun v3 h => ?_)
      exact zr_reti C w hr dX6_bent_46 h rfl
    · refine lv_iload_n C.1 C.2.1 dX6_bent_25 rfl (lv_at hl 0 rfl) ?_
      refine lv_sipush (v := 11059) C.1 C.2.1 dX6_bent_26 (by decide) ?_
      refine lv_isub C.1 C.2.1 dX6_bent_29 ?_
      refine lv_goto (tgt := 40) C.1 C.2.1 dX6_bent_30 (by decide) ?_
      refine zr_lti h (fun v4 h => ?_)
      refine lv_istore_n (lv' := [(2, .int v4), (1, .int v1), (0, .int a1)]) C.1 C.2.1 dX6_bent_40 rfl hl (by decide) rfl (fun ls hl => ?_)
      refine lv_iload_n C.1 C.2.1 dX6_bent_41 rfl (lv_at hl 2 rfl) ?_
      refine lv_iload_n C.1 C.2.1 dX6_bent_42 rfl (lv_at hl 0 rfl) ?_
      refine zr_callSi C w (As := [.int a1, .int v4]) (zm_X4_withSignOf l G _ _ _ _ rfl) zm_c_X4_withSignOf zm_l_X6_77 zm_s_X4_withSignOf zm_0_X4 zm_d_X4_withSignOf ⟨rfl, rfl⟩ ⟨Nat.le_of_ble_eq_true rfl, Nat.le_of_ble_eq_true rfl⟩ hl.1 rfl rfl (Nat.le_of_ble_eq_true rfl) dX6_bent_43 ⟨Nat.le_of_ble_eq_true rfl, Nat.le_of_ble_eq_true rfl⟩ (fun H locs w => ?_)
      refine zr_lti h (fun v5 h => ?_)
      exact zr_reti C w hr dX6_bent_46 h rfl
  · refine lv_iload_n C.1 C.2.1 dX6_bent_12 rfl (lv_at hl 0 rfl) ?_
    refine lv_iconst (v := 1) C.1 C.2.1 dX6_bent_13 (by decide) ?_
    refine lv_ishr C.1 C.2.1 dX6_bent_14 ?_
    refine lv_goto (tgt := 40) C.1 C.2.1 dX6_bent_15 (by decide) ?_
    refine zr_lti h (fun v6 h => ?_)
    refine lv_istore_n (lv' := [(2, .int v6), (1, .int v1), (0, .int a1)]) C.1 C.2.1 dX6_bent_40 rfl hl (by decide) rfl (fun ls hl => ?_)
    refine lv_iload_n C.1 C.2.1 dX6_bent_41 rfl (lv_at hl 2 rfl) ?_
    refine lv_iload_n C.1 C.2.1 dX6_bent_42 rfl (lv_at hl 0 rfl) ?_
    refine zr_callSi C w (As := [.int a1, .int v6]) (zm_X4_withSignOf l G _ _ _ _ rfl) zm_c_X4_withSignOf zm_l_X6_77 zm_s_X4_withSignOf zm_0_X4 zm_d_X4_withSignOf ⟨rfl, rfl⟩ ⟨Nat.le_of_ble_eq_true rfl, Nat.le_of_ble_eq_true rfl⟩ hl.1 rfl rfl (Nat.le_of_ble_eq_true rfl) dX6_bent_43 ⟨Nat.le_of_ble_eq_true rfl, Nat.le_of_ble_eq_true rfl⟩ (fun H locs w => ?_)
    refine zr_lti h (fun v7 h => ?_)
    exact zr_reti C w hr dX6_bent_46 h rfl
set_option maxHeartbeats 4000000 in
set_option maxRecDepth 100000 in
theorem zm_X4_floored (l : Launch) (G : zg_T) (S : zs_T) (a1 : Int32) (a2 : Int32) (r : Int32) (h : zf_X4_floored a1 a2 = r) : Met l yX4_floored (Cond.code yX4_floored cX4_floored 2 (some .int) :: zt_G) zr_m_X4_floored (va_Pc [.int a1, .int a2] (zg_P G S)) (zg_Q G (some (.int r)) S) 0 0 (zg_A G) := by
  refine zx_met (by decide +kernel) (Nat.le_of_ble_eq_true rfl) (lv := [(0, .int a1), (1, .int a2)]) rfl ?_
  intro p e s m below meth c C hr w ls hl
  replace C : zx_C p s m _ meth c G RX4 cX4_floored 2 := C
  unfold zf_X4_floored at h
  refine lv_iload_n C.1 C.2.1 dX4_floored_0 rfl (lv_at hl 0 rfl) ?_
  refine lv_iload_n C.1 C.2.1 dX4_floored_1 rfl (lv_at hl 1 rfl) ?_
  refine lv_imul C.1 C.2.1 dX4_floored_2 ?_
  refine lv_bipush (v := 15) C.1 C.2.1 dX4_floored_3 (by decide) ?_
  refine lv_ishr C.1 C.2.1 dX4_floored_5 ?_
  refine zr_callSi C w (As := [.int ((a1 * a2) >>> ((15 : Int32) &&& 31))]) (zm_X4_cut l G _ _ _ rfl) zm_c_X4_cut zm_l_X4_9 zm_s_X4_cut zm_0_X4 zm_d_X4_cut ⟨rfl, rfl⟩ ⟨Nat.le_of_ble_eq_true rfl, Nat.le_of_ble_eq_true rfl⟩ hl.1 rfl rfl (Nat.le_of_ble_eq_true rfl) dX4_floored_6 ⟨Nat.le_of_ble_eq_true rfl, Nat.le_of_ble_eq_true rfl⟩ (fun H locs w => ?_)
  refine zr_lti h (fun v1 h => ?_)
  exact zr_reti C w hr dX4_floored_9 h rfl
set_option maxHeartbeats 4000000 in
set_option maxRecDepth 100000 in
theorem zq_X6_filterNumber_49 {p : Program} {l : Launch} {e : Env} {s : State} {m : MethodId} {args : Array Value} {below : List Frame} {meth : Method} {c : Code} {G : zg_T} (hr : meth.sig.returnType = (some .int)) (C : zx_C p s m args meth c G RX6 cX6_filterNumber 5) (r : Int32) (S : zs_T) (y0 : Int32) (z0 : Int32) (h : zj_X6_filterNumber_49 y0 z0 = some r) (H : Heap) (locs : List Loc) (ls : Array Slot) (w : zg_W G S s H locs) (hl : lv_has ls 5 [(0, .int y0)]) : W p l e zr_m_X6_filterNumber s m args below meth c H locs 0 0 (MQ below (zg_Q G (some (.int r)) S) args s 0 0 (zg_A G)) (F0 m 49 ls [.int z0]) := by
  unfold zj_X6_filterNumber_49 at h
  refine lv_istore (lv' := [(4, .int z0), (0, .int y0)]) C.1 C.2.1 dX6_filterNumber_49 hl (by decide) rfl (fun ls hl => ?_)
  refine lv_iload C.1 C.2.1 dX6_filterNumber_51 (lv_at hl 0 rfl) ?_
  refine zr_gets C w 5 (by decide) zm_f_X6_92 dX6_filterNumber_53 ?_
  refine lv_iload_n C.1 C.2.1 dX6_filterNumber_56 rfl (lv_at hl 1 rfl) ?_
  refine zr_tab C w 5 (by decide) (n := 8) rfl (g := zt_v5) rfl dX6_filterNumber_57 h (fun h => ?_)
  refine zr_ic_le (tgt := 69) C dX6_filterNumber_58 (by decide) h (fun h => ?_) (fun h => ?_)
  · refine lv_iload C.1 C.2.1 dX6_filterNumber_69 (lv_at hl 0 rfl) ?_
    refine zr_getsN C w 2 (by decide) zm_n_X6_89 dX6_filterNumber_71 ?_
    refine lv_iload_n C.1 C.2.1 dX6_filterNumber_74 rfl (lv_at hl 1 rfl) ?_
    refine zr_tab C w 2 (by decide) (n := 8) rfl (g := zt_v2) rfl dX6_filterNumber_75 h (fun h => ?_)
    refine lv_isub C.1 C.2.1 dX6_filterNumber_76 ?_
    exact zr_reti C w hr dX6_filterNumber_77 (Option.some.inj h) rfl
  · refine zr_gets C w 5 (by decide) zm_f_X6_92 dX6_filterNumber_61 ?_
    refine lv_iload_n C.1 C.2.1 dX6_filterNumber_64 rfl (lv_at hl 1 rfl) ?_
    refine zr_tab C w 5 (by decide) (n := 8) rfl (g := zt_v5) rfl dX6_filterNumber_65 h (fun h => ?_)
    refine lv_goto (tgt := 71) C.1 C.2.1 dX6_filterNumber_66 (by decide) ?_
    refine zr_getsN C w 2 (by decide) zm_n_X6_89 dX6_filterNumber_71 ?_
    refine lv_iload_n C.1 C.2.1 dX6_filterNumber_74 rfl (lv_at hl 1 rfl) ?_
    refine zr_tab C w 2 (by decide) (n := 8) rfl (g := zt_v2) rfl dX6_filterNumber_75 h (fun h => ?_)
    refine lv_isub C.1 C.2.1 dX6_filterNumber_76 ?_
    exact zr_reti C w hr dX6_filterNumber_77 (Option.some.inj h) rfl
set_option maxHeartbeats 4000000 in
set_option maxRecDepth 100000 in
theorem zm_X6_filterNumber (l : Launch) (G : zg_T) (S : zs_T) (a1 : Int32) (a2 : Int32) (r : Int32) (h : zf_X6_filterNumber a1 a2 = some r) : Met l yX6_filterNumber (Cond.code yX6_filterNumber cX6_filterNumber 5 (some .int) :: zt_G) zr_m_X6_filterNumber (va_Pc [.int a1, .int a2] (zg_P G S)) (zg_Q G (some (.int r)) S) 0 0 (zg_A G) := by
  refine zx_met (by decide +kernel) (Nat.le_of_ble_eq_true rfl) (lv := [(0, .int a1), (1, .int a2)]) rfl ?_
  intro p e s m below meth c C hr w ls hl
  replace C : zx_C p s m _ meth c G RX6 cX6_filterNumber 5 := C
  unfold zf_X6_filterNumber at h
  refine zr_gets C w 4 (by decide) zm_f_X6_80 dX6_filterNumber_0 ?_
  refine lv_iload_n C.1 C.2.1 dX6_filterNumber_3 rfl (lv_at hl 0 rfl) ?_
  refine zr_tab C w 4 (by decide) (n := 8) rfl (g := zt_v4) rfl dX6_filterNumber_4 h (fun h => ?_)
  refine lv_iload_n C.1 C.2.1 dX6_filterNumber_5 rfl (lv_at hl 1 rfl) ?_
  refine zr_callSi C w (As := [.int (zt_v4 (Int32.toNatClampNeg a1)), .int a2]) (zm_X4_floored l G _ _ _ _ rfl) zm_c_X4_floored zm_l_X6_83 zm_s_X4_floored zm_0_X4 zm_d_X4_floored ⟨rfl, rfl⟩ ⟨Nat.le_of_ble_eq_true rfl, Nat.le_of_ble_eq_true rfl⟩ hl.1 rfl rfl (Nat.le_of_ble_eq_true rfl) dX6_filterNumber_6 ⟨Nat.le_of_ble_eq_true rfl, Nat.le_of_ble_eq_true rfl⟩ (fun H locs w => ?_)
  refine zr_lti h (fun v1 h => ?_)
  refine zr_getsN C w 3 (by decide) zm_n_X6_86 dX6_filterNumber_9 ?_
  refine lv_iload_n C.1 C.2.1 dX6_filterNumber_12 rfl (lv_at hl 0 rfl) ?_
  refine zr_tab C w 3 (by decide) (n := 8) rfl (g := zt_v3) rfl dX6_filterNumber_13 h (fun h => ?_)
  refine lv_iadd C.1 C.2.1 dX6_filterNumber_14 ?_
  refine zr_callSi C w (As := [.int (v1 + (zt_v3 (Int32.toNatClampNeg a1)))]) (zm_X4_cut l G _ _ _ rfl) zm_c_X4_cut zm_l_X6_57 zm_s_X4_cut zm_0_X4 zm_d_X4_cut ⟨rfl, rfl⟩ ⟨Nat.le_of_ble_eq_true rfl, Nat.le_of_ble_eq_true rfl⟩ hl.1 rfl rfl (Nat.le_of_ble_eq_true rfl) dX6_filterNumber_15 ⟨Nat.le_of_ble_eq_true rfl, Nat.le_of_ble_eq_true rfl⟩ (fun H locs w => ?_)
  refine zr_lti h (fun v2 h => ?_)
  refine lv_istore_n (lv' := [(2, .int v2), (0, .int a1), (1, .int a2)]) C.1 C.2.1 dX6_filterNumber_18 rfl hl (by decide) rfl (fun ls hl => ?_)
  refine lv_iload_n C.1 C.2.1 dX6_filterNumber_19 rfl (lv_at hl 0 rfl) ?_
  refine lv_sipush (v := 256) C.1 C.2.1 dX6_filterNumber_20 (by decide) ?_
  refine lv_iadd C.1 C.2.1 dX6_filterNumber_23 ?_
  refine zr_callSi C w (As := [.int (v2 + (256 : Int32))]) (zm_X4_cut l G _ _ _ rfl) zm_c_X4_cut zm_l_X6_57 zm_s_X4_cut zm_0_X4 zm_d_X4_cut ⟨rfl, rfl⟩ ⟨Nat.le_of_ble_eq_true rfl, Nat.le_of_ble_eq_true rfl⟩ hl.1 rfl rfl (Nat.le_of_ble_eq_true rfl) dX6_filterNumber_24 ⟨Nat.le_of_ble_eq_true rfl, Nat.le_of_ble_eq_true rfl⟩ (fun H locs w => ?_)
  refine zr_lti h (fun v3 h => ?_)
  refine lv_bipush (v := 9) C.1 C.2.1 dX6_filterNumber_27 (by decide) ?_
  refine lv_ishr C.1 C.2.1 dX6_filterNumber_29 ?_
  refine zr_lti h (fun v4 h => ?_)
  refine lv_istore_n (lv' := [(3, .int v4), (2, .int v2), (0, .int a1), (1, .int a2)]) C.1 C.2.1 dX6_filterNumber_30 rfl hl (by decide) rfl (fun ls hl => ?_)
  refine lv_iload_n C.1 C.2.1 dX6_filterNumber_31 rfl (lv_at hl 0 rfl) ?_
  refine zr_getsN C w 2 (by decide) zm_n_X6_89 dX6_filterNumber_32 ?_
  refine lv_iload_n C.1 C.2.1 dX6_filterNumber_35 rfl (lv_at hl 2 rfl) ?_
  refine zr_tab C w 2 (by decide) (n := 8) rfl (g := zt_v2) rfl dX6_filterNumber_36 h (fun h => ?_)
  refine zr_ic_ge (tgt := 48) C dX6_filterNumber_37 (by decide) h (fun h => ?_) (fun h => ?_)
  · refine lv_iload_n C.1 C.2.1 dX6_filterNumber_48 rfl (lv_at hl 0 rfl) ?_
    exact zq_X6_filterNumber_49 hr C _ _ _ _ h _ _ _ w (lv_sub hl [2] rfl)
  · refine zr_getsN C w 2 (by decide) zm_n_X6_89 dX6_filterNumber_40 ?_
    refine lv_iload_n C.1 C.2.1 dX6_filterNumber_43 rfl (lv_at hl 2 rfl) ?_
    refine zr_tab C w 2 (by decide) (n := 8) rfl (g := zt_v2) rfl dX6_filterNumber_44 h (fun h => ?_)
    refine lv_goto (tgt := 49) C.1 C.2.1 dX6_filterNumber_45 (by decide) ?_
    exact zq_X6_filterNumber_49 hr C _ _ _ _ h _ _ _ w (lv_sub hl [2] rfl)
set_option maxHeartbeats 4000000 in
set_option maxRecDepth 100000 in
theorem zk_X6_predict_15 {p : Program} {l : Launch} {e : Env} {s : State} {m : MethodId} {args : Array Value} {below : List Frame} {meth : Method} {c : Code} {G : zg_T} {Q : State → Prop} (C : zx_C p s m args meth c G RX6 cX6_predict 4) (oS : zs_T) (kont : ∀ (H : Heap) (locs : List Loc) (ls : Array Slot), zg_W G oS s H locs → lv_has ls 4 [] → W p l e zr_m_X6_predict s m args below meth c H locs 0 0 Q (F0 m 43 ls [])) : ∀ (n : Nat) (S : zs_T) (x3 : Int32), zl_2 (zb_X6_predict_15) n S x3 = some oS → ∀ (H : Heap) (locs : List Loc) (ls : Array Slot), zg_W G S s H locs → lv_has ls 4 [(0, .ref (zg_q G 9)), (2, .ref (zg_q G 3)), (3, .int x3)] → W p l e zr_m_X6_predict s m args below meth c H locs 0 0 Q (F0 m 15 ls []) := by
  intro n
  induction n with
  | zero => intro S x3 h; cases h
  | succ n ih =>
    intro S x3 h H locs ls w hl
    replace h : zb_X6_predict_15 (zl_2 (zb_X6_predict_15) n) S x3 = some oS := h
    generalize zl_2 (zb_X6_predict_15) n = rec at ih h
    unfold zb_X6_predict_15 at h
    refine lv_iload_n C.1 C.2.1 dX6_predict_15 rfl (lv_at hl 2 rfl) ?_
    refine lv_bipush (v := 8) C.1 C.2.1 dX6_predict_16 (by decide) ?_
    refine zr_ic_ge (tgt := 43) C dX6_predict_18 (by decide) h (fun h => ?_) (fun h => ?_)
    · cases h
      exact kont _ _ _ w (lv_sub hl [] rfl)
    · refine lv_aload_n C.1 C.2.1 dX6_predict_21 rfl (lv_at hl 1 rfl) ?_
      refine lv_iload_n C.1 C.2.1 dX6_predict_22 rfl (lv_at hl 2 rfl) ?_
      refine lv_iload_n C.1 C.2.1 dX6_predict_23 rfl (lv_at hl 2 rfl) ?_
      refine lv_aload_n C.1 C.2.1 dX6_predict_24 rfl (lv_at hl 0 rfl) ?_
      refine zr_get C w 9 zm_w_X6 (zw_g9 G _) rfl 4 (by decide) zm_f_X6_24 rfl dX6_predict_25 ?_
      refine lv_iload_n C.1 C.2.1 dX6_predict_28 rfl (lv_at hl 2 rfl) ?_
      refine zr_iald C w 14 (zw_g14 G _) dX6_predict_29 h (fun h => ?_)
      refine zr_callSi C w (As := [.int (S.1 14 (Int32.toNatClampNeg x3))]) (zm_X6_bent l G _ _ _ rfl) zm_c_X6_bent zm_l_X6_37 zm_s_X6_bent zm_0_X6 zm_d_X6_bent ⟨rfl, rfl⟩ ⟨Nat.le_of_ble_eq_true rfl, Nat.le_of_ble_eq_true rfl⟩ hl.1 rfl rfl (Nat.le_of_ble_eq_true rfl) dX6_predict_30 ⟨Nat.le_of_ble_eq_true rfl, Nat.le_of_ble_eq_true rfl⟩ (fun H locs w => ?_)
      refine zr_lti h (fun v4 h => ?_)
      obtain ⟨v5, hc, h⟩ := zc_b1_x h
      refine zr_callSi C w (As := [.int x3, .int v4]) (zm_X6_filterNumber l G _ _ _ _ hc) zm_c_X6_filterNumber zm_l_X6_41 zm_s_X6_filterNumber zm_0_X6 zm_d_X6_filterNumber ⟨rfl, rfl⟩ ⟨Nat.le_of_ble_eq_true rfl, Nat.le_of_ble_eq_true rfl⟩ hl.1 rfl rfl (Nat.le_of_ble_eq_true rfl) dX6_predict_33 ⟨Nat.le_of_ble_eq_true rfl, Nat.le_of_ble_eq_true rfl⟩ (fun H locs w => ?_)
      clear hc
      refine zr_iast C w 3 (zw_g3 G _) (zw_s3 G _) dX6_predict_36 h (fun S6 H locs w h => ?_)
      obtain ⟨v7, e_, h⟩ := zc_lt_x h
      refine lv_iinc (v := v7) (lv' := [(3, .int v7), (0, .ref (zg_q G 9)), (2, .ref (zg_q G 3))]) C.1 C.2.1 dX6_predict_37 hl (k := 2) rfl (by subst e_; rfl) (by decide) rfl (fun ls hl => ?_)
      clear e_
      refine lv_goto (tgt := 15) C.1 C.2.1 dX6_predict_40 (by decide) ?_
      exact ih _ _ h _ _ _ w (lv_sub hl [1, 2, 0] rfl)
set_option maxHeartbeats 4000000 in
set_option maxRecDepth 100000 in
theorem zm_X6_predict (l : Launch) (G : zg_T) (S : zs_T) (S1 : zs_T) (h : zf_X6_predict S = some S1) : Met l yX6_predict (Cond.code yX6_predict cX6_predict 4 none :: zt_G) zr_m_X6_predict (va_Pc [.ref (zg_q G 9), .ref (zg_q G 6), .ref (zg_q G 3)] (zg_P G S)) (zg_Q G none S1) 0 0 (zg_A G) := by
  refine zx_met (by decide +kernel) (Nat.le_of_ble_eq_true rfl) (lv := [(0, .ref (zg_q G 9)), (1, .ref (zg_q G 6)), (2, .ref (zg_q G 3))]) rfl ?_
  intro p e s m below meth c C hr w ls hl
  replace C : zx_C p s m _ meth c G RX6 cX6_predict 4 := C
  unfold zf_X6_predict at h
  refine lv_aload_n C.1 C.2.1 dX6_predict_0 rfl (lv_at hl 0 rfl) ?_
  refine lv_aload_n C.1 C.2.1 dX6_predict_1 rfl (lv_at hl 1 rfl) ?_
  obtain ⟨S1, hc, h⟩ := zc_b1_x h
  refine zr_callVv C w 9 (zw_g9 G _) rfl (As := [.ref (zg_q G 6)]) (zm_X6_lower l G _ _ hc) zm_c_X6_lower zm_l_X6_27 zm_i_X6_lower zm_e_X6_lower zm_0_X6 zm_d_X6_lower ⟨rfl, rfl⟩ ⟨Nat.le_of_ble_eq_true rfl, Nat.le_of_ble_eq_true rfl⟩ hl.1 rfl rfl (Nat.le_of_ble_eq_true rfl) dX6_predict_2 ⟨Nat.le_of_ble_eq_true rfl, Nat.le_of_ble_eq_true rfl⟩ (fun H locs w => ?_)
  clear hc
  refine lv_aload_n C.1 C.2.1 dX6_predict_5 rfl (lv_at hl 0 rfl) ?_
  obtain ⟨S2, hc, h⟩ := zc_b1_x h
  refine zr_callVv C w 9 (zw_g9 G _) rfl (As := []) (zm_X6_correlate l G _ _ hc) zm_c_X6_correlate zm_l_X6_31 zm_i_X6_correlate zm_e_X6_correlate zm_0_X6 zm_d_X6_correlate ⟨rfl, rfl⟩ ⟨Nat.le_of_ble_eq_true rfl, Nat.le_of_ble_eq_true rfl⟩ hl.1 rfl rfl (Nat.le_of_ble_eq_true rfl) dX6_predict_6 ⟨Nat.le_of_ble_eq_true rfl, Nat.le_of_ble_eq_true rfl⟩ (fun H locs w => ?_)
  clear hc
  refine lv_aload_n C.1 C.2.1 dX6_predict_9 rfl (lv_at hl 0 rfl) ?_
  obtain ⟨S3, hc, h⟩ := zc_b1_x h
  refine zr_callVv C w 9 (zw_g9 G _) rfl (As := []) (zm_X6_reflect l G _ _ hc) zm_c_X6_reflect zm_l_X6_34 zm_i_X6_reflect zm_e_X6_reflect zm_0_X6 zm_d_X6_reflect ⟨rfl, rfl⟩ ⟨Nat.le_of_ble_eq_true rfl, Nat.le_of_ble_eq_true rfl⟩ hl.1 rfl rfl (Nat.le_of_ble_eq_true rfl) dX6_predict_10 ⟨Nat.le_of_ble_eq_true rfl, Nat.le_of_ble_eq_true rfl⟩ (fun H locs w => ?_)
  clear hc
  refine lv_iconst (v := 0) C.1 C.2.1 dX6_predict_13 (by decide) ?_
  refine lv_istore_n (lv' := [(3, .int (0 : Int32)), (0, .ref (zg_q G 9)), (1, .ref (zg_q G 6)), (2, .ref (zg_q G 3))]) C.1 C.2.1 dX6_predict_14 rfl hl (by decide) rfl (fun ls hl => ?_)
  obtain ⟨S8, hc, h⟩ := zc_b1_x h
  refine zk_X6_predict_15 C S8 (fun H locs ls w hl => ?_) _ _ _ hc _ _ _ w (lv_sub hl [1, 3, 0] rfl)
  clear hc
  exact zr_retv C w hr dX6_predict_43 (Option.some.inj h)
