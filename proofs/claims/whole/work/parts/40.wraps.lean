set_option maxHeartbeats 4000000 in
set_option maxRecDepth 100000 in
theorem zm_L_put (l : Launch) (hst : l.stackTraces = false) (G : zg_T) (S : zs_T) (a1 : Int32) (k r : Int32) (S1 : zs_T) (hk : k = 0 ∨ k = 1 ∨ k = 2) (h : zf_X10_put S a1 = some (k, r, S1)) : Met l yL_put (Cond.codeWith yL_put cL_put 4 (some .int) [(0, 9, 12, 13), (0, 9, 15, 15)] :: zt_G) zr_m_L_put (va_Pc [.ref (zg_q G 0), .int a1, .ref (zg_q G 59)] (zg_P G S)) (zg_Q G (some (.int k)) (zx_o k r S1)) 1 6 (zg_A G) := by
  refine zx_metW (by decide +kernel) (Nat.le_of_ble_eq_true rfl) (lv := [(0, .ref (zg_q G 0)), (1, .int a1), (2, .ref (zg_q G 59))]) rfl ?_
  intro p e s m below meth c C hr ht w ls hl
  replace C : zx_C p s m _ meth c G RL cL_put 4 := C
  refine lv_aload_n C.1 C.2.1 dL_put_0 rfl (lv_at hl 2 rfl) ?_
  refine lv_iconst (v := 0) C.1 C.2.1 dL_put_1 (by decide) ?_
  refine lv_aload_n C.1 C.2.1 dL_put_2 rfl (lv_at hl 0 rfl) ?_
  refine lv_iload_n C.1 C.2.1 dL_put_3 rfl (lv_at hl 1 rfl) ?_
  refine zr_callT C w 0 (zw_g0 G _) rfl (As := [.int a1]) (zm_X10_put l hst G _ _ _ _ _ h) zm_c_X10_put zm_l_L_7 zm_i_X10_put zm_e_X10_put zm_0_X10 zm_d_X10_put ⟨rfl, rfl⟩ ⟨Nat.le_of_ble_eq_true rfl, Nat.le_of_ble_eq_true rfl⟩ hl.1 rfl rfl (Nat.le_of_ble_eq_true rfl) dL_put_4 ⟨Nat.le_of_ble_eq_true rfl, Nat.le_of_ble_eq_true rfl⟩ (fun hz ce q H locs w hce hcv hcl => ?_) (fun hz H locs w => ?_)
  · rcases hk with hk | hk | hk
    · exact absurd hk hz
    · subst hk
      refine zr_cat1 C rfl ht (by decide) hce hcv hcl ?_
      refine lv_astore_n (lv' := [(3, .ref q), (0, .ref (zg_q G 0)), (1, .int a1), (2, .ref (zg_q G 59))]) C.1 C.2.1 dL_put_12 rfl hl (by decide) rfl (fun ls hl => ?_)
      refine lv_iconst (v := 1) C.1 C.2.1 dL_put_13 (by decide) ?_
      exact zr_reti C w hr dL_put_14 (by decide) rfl
    · subst hk
      refine zr_cat2 C rfl ht (by decide) hce hcv hcl ?_
      refine lv_astore_n (lv' := [(3, .ref q), (0, .ref (zg_q G 0)), (1, .int a1), (2, .ref (zg_q G 59))]) C.1 C.2.1 dL_put_15 rfl hl (by decide) rfl (fun ls hl => ?_)
      refine lv_iconst (v := 2) C.1 C.2.1 dL_put_16 (by decide) ?_
      exact zr_reti C w hr dL_put_17 (by decide) rfl
  · subst hz
    refine lv_i2l C.1 C.2.1 dL_put_7 rfl ?_
    refine zr_last C w 59 (zw_g59 G _) (zw_s59 G _) dL_put_8 (f := fun S => some S) (o := zs_wl S1 59 0 r.toInt64) rfl (fun S9 H locs w e_ => ?_)
    cases e_
    refine lv_goto (tgt := 18) C.1 C.2.1 dL_put_9 (by decide) ?_
    refine lv_iconst (v := 0) C.1 C.2.1 dL_put_18 (by decide) ?_
    exact zr_reti C w hr dL_put_19 (by decide) rfl
set_option maxHeartbeats 4000000 in
set_option maxRecDepth 100000 in
theorem zm_L_fill (l : Launch) (hst : l.stackTraces = false) (G : zg_T) (S : zs_T) (a1 : Int32) (a2 : Int32) (a3 : Int32) (k r : Int32) (S1 : zs_T) (hk : k = 0 ∨ k = 1 ∨ k = 2) (h : zf_X10_fill S a1 a2 a3 = some (k, r, S1)) : Met l yL_fill (Cond.codeWith yL_fill cL_fill 6 (some .int) [(0, 12, 15, 13), (0, 12, 19, 15)] :: zt_G) zr_m_L_fill (va_Pc [.ref (zg_q G 0), .int a1, .int a2, .int a3, .ref (zg_q G 59)] (zg_P G S)) (zg_Q G (some (.int k)) (zx_o k r S1)) 1 6 (zg_A G) := by
  refine zx_metW (by decide +kernel) (Nat.le_of_ble_eq_true rfl) (lv := [(0, .ref (zg_q G 0)), (1, .int a1), (2, .int a2), (3, .int a3), (4, .ref (zg_q G 59))]) rfl ?_
  intro p e s m below meth c C hr ht w ls hl
  replace C : zx_C p s m _ meth c G RL cL_fill 6 := C
  refine lv_aload C.1 C.2.1 dL_fill_0 (lv_at hl 4 rfl) ?_
  refine lv_iconst (v := 0) C.1 C.2.1 dL_fill_2 (by decide) ?_
  refine lv_aload_n C.1 C.2.1 dL_fill_3 rfl (lv_at hl 0 rfl) ?_
  refine lv_iload_n C.1 C.2.1 dL_fill_4 rfl (lv_at hl 1 rfl) ?_
  refine lv_iload_n C.1 C.2.1 dL_fill_5 rfl (lv_at hl 2 rfl) ?_
  refine lv_iload_n C.1 C.2.1 dL_fill_6 rfl (lv_at hl 3 rfl) ?_
  refine zr_callT C w 0 (zw_g0 G _) rfl (As := [.int a1, .int a2, .int a3]) (zm_X10_fill l hst G _ _ _ _ _ _ _ h) zm_c_X10_fill zm_l_L_17 zm_i_X10_fill zm_e_X10_fill zm_0_X10 zm_d_X10_fill ⟨rfl, rfl⟩ ⟨Nat.le_of_ble_eq_true rfl, Nat.le_of_ble_eq_true rfl⟩ hl.1 rfl rfl (Nat.le_of_ble_eq_true rfl) dL_fill_7 ⟨Nat.le_of_ble_eq_true rfl, Nat.le_of_ble_eq_true rfl⟩ (fun hz ce q H locs w hce hcv hcl => ?_) (fun hz H locs w => ?_)
  · rcases hk with hk | hk | hk
    · exact absurd hk hz
    · subst hk
      refine zr_cat1 C rfl ht (by decide) hce hcv hcl ?_
      refine lv_astore (lv' := [(5, .ref q), (0, .ref (zg_q G 0)), (1, .int a1), (2, .int a2), (3, .int a3), (4, .ref (zg_q G 59))]) C.1 C.2.1 dL_fill_15 hl (by decide) rfl (fun ls hl => ?_)
      refine lv_iconst (v := 1) C.1 C.2.1 dL_fill_17 (by decide) ?_
      exact zr_reti C w hr dL_fill_18 (by decide) rfl
    · subst hk
      refine zr_cat2 C rfl ht (by decide) hce hcv hcl ?_
      refine lv_astore (lv' := [(5, .ref q), (0, .ref (zg_q G 0)), (1, .int a1), (2, .int a2), (3, .int a3), (4, .ref (zg_q G 59))]) C.1 C.2.1 dL_fill_19 hl (by decide) rfl (fun ls hl => ?_)
      refine lv_iconst (v := 2) C.1 C.2.1 dL_fill_21 (by decide) ?_
      exact zr_reti C w hr dL_fill_22 (by decide) rfl
  · subst hz
    refine lv_i2l C.1 C.2.1 dL_fill_10 rfl ?_
    refine zr_last C w 59 (zw_g59 G _) (zw_s59 G _) dL_fill_11 (f := fun S => some S) (o := zs_wl S1 59 0 r.toInt64) rfl (fun S9 H locs w e_ => ?_)
    cases e_
    refine lv_goto (tgt := 23) C.1 C.2.1 dL_fill_12 (by decide) ?_
    refine lv_iconst (v := 0) C.1 C.2.1 dL_fill_23 (by decide) ?_
    exact zr_reti C w hr dL_fill_24 (by decide) rfl
set_option maxHeartbeats 4000000 in
set_option maxRecDepth 100000 in
theorem zm_L_encode (l : Launch) (hst : l.stackTraces = false) (G : zg_T) (S : zs_T) (k r : Int32) (S1 : zs_T) (hk : k = 0 ∨ k = 2) (h : zf_X10_encode S = some (k, r, S1)) : Met l yL_encode (Cond.codeWith yL_encode cL_encode 3 (some .int) [(0, 8, 11, 15)] :: zt_G) zr_m_L_encode (va_Pc [.ref (zg_q G 0), .ref (zg_q G 59)] (zg_P G S)) (zg_Q G (some (.int (if k = 2 then 1 else k))) (zx_o k r S1)) 1 6 (zg_A G) := by
  refine zx_metW (by decide +kernel) (Nat.le_of_ble_eq_true rfl) (lv := [(0, .ref (zg_q G 0)), (1, .ref (zg_q G 59))]) rfl ?_
  intro p e s m below meth c C hr ht w ls hl
  replace C : zx_C p s m _ meth c G RL cL_encode 3 := C
  refine lv_aload_n C.1 C.2.1 dL_encode_0 rfl (lv_at hl 1 rfl) ?_
  refine lv_iconst (v := 0) C.1 C.2.1 dL_encode_1 (by decide) ?_
  refine lv_aload_n C.1 C.2.1 dL_encode_2 rfl (lv_at hl 0 rfl) ?_
  refine zr_callT C w 0 (zw_g0 G _) rfl (As := []) (zm_X10_encode l hst G _ _ _ _ h) zm_c_X10_encode zm_l_L_21 zm_i_X10_encode zm_e_X10_encode zm_0_X10 zm_d_X10_encode ⟨rfl, rfl⟩ ⟨Nat.le_of_ble_eq_true rfl, Nat.le_of_ble_eq_true rfl⟩ hl.1 rfl rfl (Nat.le_of_ble_eq_true rfl) dL_encode_3 ⟨Nat.le_of_ble_eq_true rfl, Nat.le_of_ble_eq_true rfl⟩ (fun hz ce q H locs w hce hcv hcl => ?_) (fun hz H locs w => ?_)
  · rcases hk with hk | hk
    · exact absurd hk hz
    · subst hk
      refine zr_cat3 C rfl ht (by decide) hce hcv hcl ?_
      refine lv_astore_n (lv' := [(2, .ref q), (0, .ref (zg_q G 0)), (1, .ref (zg_q G 59))]) C.1 C.2.1 dL_encode_11 rfl hl (by decide) rfl (fun ls hl => ?_)
      refine lv_iconst (v := 1) C.1 C.2.1 dL_encode_12 (by decide) ?_
      exact zr_reti C w hr dL_encode_13 (by decide) rfl
  · subst hz
    refine lv_i2l C.1 C.2.1 dL_encode_6 rfl ?_
    refine zr_last C w 59 (zw_g59 G _) (zw_s59 G _) dL_encode_7 (f := fun S => some S) (o := zs_wl S1 59 0 r.toInt64) rfl (fun S9 H locs w e_ => ?_)
    cases e_
    refine lv_goto (tgt := 14) C.1 C.2.1 dL_encode_8 (by decide) ?_
    refine lv_iconst (v := 0) C.1 C.2.1 dL_encode_14 (by decide) ?_
    exact zr_reti C w hr dL_encode_15 (by decide) rfl
set_option maxHeartbeats 4000000 in
set_option maxRecDepth 100000 in
theorem zm_L_parameter (l : Launch) (hst : l.stackTraces = false) (G : zg_T) (S : zs_T) (a1 : Int32) (k r : Int32) (S1 : zs_T) (hk : k = 0 ∨ k = 1) (h : zf_X10_parameter S a1 = some (k, r, S1)) : Met l yL_parameter (Cond.codeWith yL_parameter cL_parameter 4 (some .int) [(0, 9, 12, 13)] :: zt_G) zr_m_L_parameter (va_Pc [.ref (zg_q G 0), .int a1, .ref (zg_q G 59)] (zg_P G S)) (zg_Q G (some (.int k)) (zx_o k r S1)) 1 6 (zg_A G) := by
  refine zx_metW (by decide +kernel) (Nat.le_of_ble_eq_true rfl) (lv := [(0, .ref (zg_q G 0)), (1, .int a1), (2, .ref (zg_q G 59))]) rfl ?_
  intro p e s m below meth c C hr ht w ls hl
  replace C : zx_C p s m _ meth c G RL cL_parameter 4 := C
  refine lv_aload_n C.1 C.2.1 dL_parameter_0 rfl (lv_at hl 2 rfl) ?_
  refine lv_iconst (v := 0) C.1 C.2.1 dL_parameter_1 (by decide) ?_
  refine lv_aload_n C.1 C.2.1 dL_parameter_2 rfl (lv_at hl 0 rfl) ?_
  refine lv_iload_n C.1 C.2.1 dL_parameter_3 rfl (lv_at hl 1 rfl) ?_
  refine zr_callT C w 0 (zw_g0 G _) rfl (As := [.int a1]) (zm_X10_parameter l hst G _ _ _ _ _ h) zm_c_X10_parameter zm_l_L_25 zm_i_X10_parameter zm_e_X10_parameter zm_0_X10 zm_d_X10_parameter ⟨rfl, rfl⟩ ⟨Nat.le_of_ble_eq_true rfl, Nat.le_of_ble_eq_true rfl⟩ hl.1 rfl rfl (Nat.le_of_ble_eq_true rfl) dL_parameter_4 ⟨Nat.le_of_ble_eq_true rfl, Nat.le_of_ble_eq_true rfl⟩ (fun hz ce q H locs w hce hcv hcl => ?_) (fun hz H locs w => ?_)
  · rcases hk with hk | hk
    · exact absurd hk hz
    · subst hk
      refine zr_cat1 C rfl ht (by decide) hce hcv hcl ?_
      refine lv_astore_n (lv' := [(3, .ref q), (0, .ref (zg_q G 0)), (1, .int a1), (2, .ref (zg_q G 59))]) C.1 C.2.1 dL_parameter_12 rfl hl (by decide) rfl (fun ls hl => ?_)
      refine lv_iconst (v := 1) C.1 C.2.1 dL_parameter_13 (by decide) ?_
      exact zr_reti C w hr dL_parameter_14 (by decide) rfl
  · subst hz
    refine lv_i2l C.1 C.2.1 dL_parameter_7 rfl ?_
    refine zr_last C w 59 (zw_g59 G _) (zw_s59 G _) dL_parameter_8 (f := fun S => some S) (o := zs_wl S1 59 0 r.toInt64) rfl (fun S9 H locs w e_ => ?_)
    cases e_
    refine lv_goto (tgt := 15) C.1 C.2.1 dL_parameter_9 (by decide) ?_
    refine lv_iconst (v := 0) C.1 C.2.1 dL_parameter_15 (by decide) ?_
    exact zr_reti C w hr dL_parameter_16 (by decide) rfl
set_option maxHeartbeats 4000000 in
set_option maxRecDepth 100000 in
theorem zm_L_feed (l : Launch) (hst : l.stackTraces = false) (G : zg_T) (S : zs_T) (a1 : Int64) (a2 : Int32) (k r : Int32) (S1 : zs_T) (hk : k = 0 ∨ k = 1 ∨ k = 2) (h : zf_X10_feed S a1 a2 = some (k, r, S1)) : Met l yL_feed (Cond.codeWith yL_feed cL_feed 6 (some .int) [(0, 11, 14, 13), (0, 11, 18, 15)] :: zt_G) zr_m_L_feed (va_Pc [.ref (zg_q G 0), .long a1, .int a2, .ref (zg_q G 59)] (zg_P G S)) (zg_Q G (some (.int k)) (zx_o k r S1)) 1 6 (zg_A G) := by
  refine zx_metW (by decide +kernel) (Nat.le_of_ble_eq_true rfl) (lv := [(0, .ref (zg_q G 0)), (1, .long a1), (3, .int a2), (4, .ref (zg_q G 59))]) rfl ?_
  intro p e s m below meth c C hr ht w ls hl
  replace C : zx_C p s m _ meth c G RL cL_feed 6 := C
  refine lv_aload C.1 C.2.1 dL_feed_0 (lv_at hl 3 rfl) ?_
  refine lv_iconst (v := 0) C.1 C.2.1 dL_feed_2 (by decide) ?_
  refine lv_aload_n C.1 C.2.1 dL_feed_3 rfl (lv_at hl 0 rfl) ?_
  refine lv_lload_n C.1 C.2.1 dL_feed_4 rfl (lv_at hl 1 rfl) ?_
  refine lv_iload_n C.1 C.2.1 dL_feed_5 rfl (lv_at hl 2 rfl) ?_
  refine zr_callT C w 0 (zw_g0 G _) rfl (As := [.long a1, .int a2]) (zm_X10_feed l hst G _ _ _ _ _ _ h) zm_c_X10_feed zm_l_L_28 zm_i_X10_feed zm_e_X10_feed zm_0_X10 zm_d_X10_feed ⟨rfl, rfl⟩ ⟨Nat.le_of_ble_eq_true rfl, Nat.le_of_ble_eq_true rfl⟩ hl.1 rfl rfl (Nat.le_of_ble_eq_true rfl) dL_feed_6 ⟨Nat.le_of_ble_eq_true rfl, Nat.le_of_ble_eq_true rfl⟩ (fun hz ce q H locs w hce hcv hcl => ?_) (fun hz H locs w => ?_)
  · rcases hk with hk | hk | hk
    · exact absurd hk hz
    · subst hk
      refine zr_cat1 C rfl ht (by decide) hce hcv hcl ?_
      refine lv_astore (lv' := [(5, .ref q), (0, .ref (zg_q G 0)), (1, .long a1), (3, .int a2), (4, .ref (zg_q G 59))]) C.1 C.2.1 dL_feed_14 hl (by decide) rfl (fun ls hl => ?_)
      refine lv_iconst (v := 1) C.1 C.2.1 dL_feed_16 (by decide) ?_
      exact zr_reti C w hr dL_feed_17 (by decide) rfl
    · subst hk
      refine zr_cat2 C rfl ht (by decide) hce hcv hcl ?_
      refine lv_astore (lv' := [(5, .ref q), (0, .ref (zg_q G 0)), (1, .long a1), (3, .int a2), (4, .ref (zg_q G 59))]) C.1 C.2.1 dL_feed_18 hl (by decide) rfl (fun ls hl => ?_)
      refine lv_iconst (v := 2) C.1 C.2.1 dL_feed_20 (by decide) ?_
      exact zr_reti C w hr dL_feed_21 (by decide) rfl
  · subst hz
    refine lv_i2l C.1 C.2.1 dL_feed_9 rfl ?_
    refine zr_last C w 59 (zw_g59 G _) (zw_s59 G _) dL_feed_10 (f := fun S => some S) (o := zs_wl S1 59 0 r.toInt64) rfl (fun S9 H locs w e_ => ?_)
    cases e_
    refine lv_goto (tgt := 22) C.1 C.2.1 dL_feed_11 (by decide) ?_
    refine lv_iconst (v := 0) C.1 C.2.1 dL_feed_22 (by decide) ?_
    exact zr_reti C w hr dL_feed_23 (by decide) rfl
set_option maxHeartbeats 4000000 in
set_option maxRecDepth 100000 in
theorem zm_L_sample (l : Launch) (hst : l.stackTraces = false) (G : zg_T) (S : zs_T) (a1 : Int32) (k r : Int32) (S1 : zs_T) (hk : k = 0 ∨ k = 1) (h : zf_X10_sample S a1 = some (k, r, S1)) : Met l yL_sample (Cond.codeWith yL_sample cL_sample 4 (some .int) [(0, 9, 12, 13)] :: zt_G) zr_m_L_sample (va_Pc [.ref (zg_q G 0), .int a1, .ref (zg_q G 59)] (zg_P G S)) (zg_Q G (some (.int k)) (zx_o k r S1)) 1 6 (zg_A G) := by
  refine zx_metW (by decide +kernel) (Nat.le_of_ble_eq_true rfl) (lv := [(0, .ref (zg_q G 0)), (1, .int a1), (2, .ref (zg_q G 59))]) rfl ?_
  intro p e s m below meth c C hr ht w ls hl
  replace C : zx_C p s m _ meth c G RL cL_sample 4 := C
  refine lv_aload_n C.1 C.2.1 dL_sample_0 rfl (lv_at hl 2 rfl) ?_
  refine lv_iconst (v := 0) C.1 C.2.1 dL_sample_1 (by decide) ?_
  refine lv_aload_n C.1 C.2.1 dL_sample_2 rfl (lv_at hl 0 rfl) ?_
  refine lv_iload_n C.1 C.2.1 dL_sample_3 rfl (lv_at hl 1 rfl) ?_
  refine zr_callT C w 0 (zw_g0 G _) rfl (As := [.int a1]) (zm_X10_sample l hst G _ _ _ _ _ h) zm_c_X10_sample zm_l_L_32 zm_i_X10_sample zm_e_X10_sample zm_0_X10 zm_d_X10_sample ⟨rfl, rfl⟩ ⟨Nat.le_of_ble_eq_true rfl, Nat.le_of_ble_eq_true rfl⟩ hl.1 rfl rfl (Nat.le_of_ble_eq_true rfl) dL_sample_4 ⟨Nat.le_of_ble_eq_true rfl, Nat.le_of_ble_eq_true rfl⟩ (fun hz ce q H locs w hce hcv hcl => ?_) (fun hz H locs w => ?_)
  · rcases hk with hk | hk
    · exact absurd hk hz
    · subst hk
      refine zr_cat1 C rfl ht (by decide) hce hcv hcl ?_
      refine lv_astore_n (lv' := [(3, .ref q), (0, .ref (zg_q G 0)), (1, .int a1), (2, .ref (zg_q G 59))]) C.1 C.2.1 dL_sample_12 rfl hl (by decide) rfl (fun ls hl => ?_)
      refine lv_iconst (v := 1) C.1 C.2.1 dL_sample_13 (by decide) ?_
      exact zr_reti C w hr dL_sample_14 (by decide) rfl
  · subst hz
    refine lv_i2l C.1 C.2.1 dL_sample_7 rfl ?_
    refine zr_last C w 59 (zw_g59 G _) (zw_s59 G _) dL_sample_8 (f := fun S => some S) (o := zs_wl S1 59 0 r.toInt64) rfl (fun S9 H locs w e_ => ?_)
    cases e_
    refine lv_goto (tgt := 15) C.1 C.2.1 dL_sample_9 (by decide) ?_
    refine lv_iconst (v := 0) C.1 C.2.1 dL_sample_15 (by decide) ?_
    exact zr_reti C w hr dL_sample_16 (by decide) rfl
set_option maxHeartbeats 4000000 in
set_option maxRecDepth 100000 in
theorem zm_L_reset (l : Launch) (hst : l.stackTraces = false) (G : zg_T) (S : zs_T) (a1 : Int32) (k r : Int32) (S1 : zs_T) (hk : k = 0 ∨ k = 1) (h : zf_X10_reset S a1 = some (k, r, S1)) : Met l yL_reset (Cond.codeWith yL_reset cL_reset 3 (some .int) [(0, 5, 8, 13)] :: zt_G) zr_m_L_reset (va_Pc [.ref (zg_q G 0), .int a1] (zg_P G S)) (zg_Q G (some (.int k)) (S1)) 1 6 (zg_A G) := by
  refine zx_metW (by decide +kernel) (Nat.le_of_ble_eq_true rfl) (lv := [(0, .ref (zg_q G 0)), (1, .int a1)]) rfl ?_
  intro p e s m below meth c C hr ht w ls hl
  replace C : zx_C p s m _ meth c G RL cL_reset 3 := C
  refine lv_aload_n C.1 C.2.1 dL_reset_0 rfl (lv_at hl 0 rfl) ?_
  refine lv_iload_n C.1 C.2.1 dL_reset_1 rfl (lv_at hl 1 rfl) ?_
  refine zr_callT C w 0 (zw_g0 G _) rfl (As := [.int a1]) (zm_X10_reset l hst G _ _ _ _ _ h) zm_c_X10_reset zm_l_L_35 zm_i_X10_reset zm_e_X10_reset zm_0_X10 zm_d_X10_reset ⟨rfl, rfl⟩ ⟨Nat.le_of_ble_eq_true rfl, Nat.le_of_ble_eq_true rfl⟩ hl.1 rfl rfl (Nat.le_of_ble_eq_true rfl) dL_reset_2 ⟨Nat.le_of_ble_eq_true rfl, Nat.le_of_ble_eq_true rfl⟩ (fun hz ce q H locs w hce hcv hcl => ?_) (fun hz H locs w => ?_)
  · rcases hk with hk | hk
    · exact absurd hk hz
    · subst hk
      refine zr_cat1 C rfl ht (by decide) hce hcv hcl ?_
      refine lv_astore_n (lv' := [(2, .ref q), (0, .ref (zg_q G 0)), (1, .int a1)]) C.1 C.2.1 dL_reset_8 rfl hl (by decide) rfl (fun ls hl => ?_)
      refine lv_iconst (v := 1) C.1 C.2.1 dL_reset_9 (by decide) ?_
      exact zr_reti C w hr dL_reset_10 (by decide) rfl
  · subst hz
    refine lv_goto (tgt := 11) C.1 C.2.1 dL_reset_5 (by decide) ?_
    refine lv_iconst (v := 0) C.1 C.2.1 dL_reset_11 (by decide) ?_
    exact zr_reti C w hr dL_reset_12 (by decide) rfl
set_option maxHeartbeats 4000000 in
set_option maxRecDepth 100000 in
theorem zm_L_state (l : Launch) (hst : l.stackTraces = false) (G : zg_T) (S : zs_T) (a1 : Int32) (a2 : Int32) (k r : Int32) (S1 : zs_T) (hk : k = 0 ∨ k = 1) (h : zf_X10_state S a1 a2 = some (k, r, S1)) : Met l yL_state (Cond.codeWith yL_state cL_state 5 (some .int) [(0, 10, 13, 13)] :: zt_G) zr_m_L_state (va_Pc [.ref (zg_q G 0), .int a1, .int a2, .ref (zg_q G 59)] (zg_P G S)) (zg_Q G (some (.int k)) (zx_o k r S1)) 1 6 (zg_A G) := by
  refine zx_metW (by decide +kernel) (Nat.le_of_ble_eq_true rfl) (lv := [(0, .ref (zg_q G 0)), (1, .int a1), (2, .int a2), (3, .ref (zg_q G 59))]) rfl ?_
  intro p e s m below meth c C hr ht w ls hl
  replace C : zx_C p s m _ meth c G RL cL_state 5 := C
  refine lv_aload_n C.1 C.2.1 dL_state_0 rfl (lv_at hl 3 rfl) ?_
  refine lv_iconst (v := 0) C.1 C.2.1 dL_state_1 (by decide) ?_
  refine lv_aload_n C.1 C.2.1 dL_state_2 rfl (lv_at hl 0 rfl) ?_
  refine lv_iload_n C.1 C.2.1 dL_state_3 rfl (lv_at hl 1 rfl) ?_
  refine lv_iload_n C.1 C.2.1 dL_state_4 rfl (lv_at hl 2 rfl) ?_
  refine zr_callT C w 0 (zw_g0 G _) rfl (As := [.int a1, .int a2]) (zm_X10_state l hst G _ _ _ _ _ _ h) zm_c_X10_state zm_l_L_39 zm_i_X10_state zm_e_X10_state zm_0_X10 zm_d_X10_state ⟨rfl, rfl⟩ ⟨Nat.le_of_ble_eq_true rfl, Nat.le_of_ble_eq_true rfl⟩ hl.1 rfl rfl (Nat.le_of_ble_eq_true rfl) dL_state_5 ⟨Nat.le_of_ble_eq_true rfl, Nat.le_of_ble_eq_true rfl⟩ (fun hz ce q H locs w hce hcv hcl => ?_) (fun hz H locs w => ?_)
  · rcases hk with hk | hk
    · exact absurd hk hz
    · subst hk
      refine zr_cat1 C rfl ht (by decide) hce hcv hcl ?_
      refine lv_astore (lv' := [(4, .ref q), (0, .ref (zg_q G 0)), (1, .int a1), (2, .int a2), (3, .ref (zg_q G 59))]) C.1 C.2.1 dL_state_13 hl (by decide) rfl (fun ls hl => ?_)
      refine lv_iconst (v := 1) C.1 C.2.1 dL_state_15 (by decide) ?_
      exact zr_reti C w hr dL_state_16 (by decide) rfl
  · subst hz
    refine lv_i2l C.1 C.2.1 dL_state_8 rfl ?_
    refine zr_last C w 59 (zw_g59 G _) (zw_s59 G _) dL_state_9 (f := fun S => some S) (o := zs_wl S1 59 0 r.toInt64) rfl (fun S9 H locs w e_ => ?_)
    cases e_
    refine lv_goto (tgt := 17) C.1 C.2.1 dL_state_10 (by decide) ?_
    refine lv_iconst (v := 0) C.1 C.2.1 dL_state_17 (by decide) ?_
    exact zr_reti C w hr dL_state_18 (by decide) rfl
set_option maxHeartbeats 4000000 in
set_option maxRecDepth 100000 in
theorem zm_L_about (l : Launch) (hst : l.stackTraces = false) (G : zg_T) (S : zs_T) (a1 : Int32) (k r : Int32) (S1 : zs_T) (hk : k = 0 ∨ k = 1) (h : zf_X10_about S a1 = some (k, r, S1)) : Met l yL_about (Cond.codeWith yL_about cL_about 4 (some .int) [(0, 9, 12, 13)] :: zt_G) zr_m_L_about (va_Pc [.ref (zg_q G 0), .int a1, .ref (zg_q G 59)] (zg_P G S)) (zg_Q G (some (.int k)) (zx_o k r S1)) 1 6 (zg_A G) := by
  refine zx_metW (by decide +kernel) (Nat.le_of_ble_eq_true rfl) (lv := [(0, .ref (zg_q G 0)), (1, .int a1), (2, .ref (zg_q G 59))]) rfl ?_
  intro p e s m below meth c C hr ht w ls hl
  replace C : zx_C p s m _ meth c G RL cL_about 4 := C
  refine lv_aload_n C.1 C.2.1 dL_about_0 rfl (lv_at hl 2 rfl) ?_
  refine lv_iconst (v := 0) C.1 C.2.1 dL_about_1 (by decide) ?_
  refine lv_aload_n C.1 C.2.1 dL_about_2 rfl (lv_at hl 0 rfl) ?_
  refine lv_iload_n C.1 C.2.1 dL_about_3 rfl (lv_at hl 1 rfl) ?_
  refine zr_callT C w 0 (zw_g0 G _) rfl (As := [.int a1]) (zm_X10_about l hst G _ _ _ _ _ h) zm_c_X10_about zm_l_L_43 zm_i_X10_about zm_e_X10_about zm_0_X10 zm_d_X10_about ⟨rfl, rfl⟩ ⟨Nat.le_of_ble_eq_true rfl, Nat.le_of_ble_eq_true rfl⟩ hl.1 rfl rfl (Nat.le_of_ble_eq_true rfl) dL_about_4 ⟨Nat.le_of_ble_eq_true rfl, Nat.le_of_ble_eq_true rfl⟩ (fun hz ce q H locs w hce hcv hcl => ?_) (fun hz H locs w => ?_)
  · rcases hk with hk | hk
    · exact absurd hk hz
    · subst hk
      refine zr_cat1 C rfl ht (by decide) hce hcv hcl ?_
      refine lv_astore_n (lv' := [(3, .ref q), (0, .ref (zg_q G 0)), (1, .int a1), (2, .ref (zg_q G 59))]) C.1 C.2.1 dL_about_12 rfl hl (by decide) rfl (fun ls hl => ?_)
      refine lv_iconst (v := 1) C.1 C.2.1 dL_about_13 (by decide) ?_
      exact zr_reti C w hr dL_about_14 (by decide) rfl
  · subst hz
    refine lv_i2l C.1 C.2.1 dL_about_7 rfl ?_
    refine zr_last C w 59 (zw_g59 G _) (zw_s59 G _) dL_about_8 (f := fun S => some S) (o := zs_wl S1 59 0 r.toInt64) rfl (fun S9 H locs w e_ => ?_)
    cases e_
    refine lv_goto (tgt := 15) C.1 C.2.1 dL_about_9 (by decide) ?_
    refine lv_iconst (v := 0) C.1 C.2.1 dL_about_15 (by decide) ?_
    exact zr_reti C w hr dL_about_16 (by decide) rfl
