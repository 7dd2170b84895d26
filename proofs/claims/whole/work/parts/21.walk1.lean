set_option maxHeartbeats 4000000 in
set_option maxRecDepth 100000 in
theorem zk_X2_learn_2_15_3 {p : Program} {l : Launch} {e : Env} {s : State} {m : MethodId} {args : Array Value} {below : List Frame} {meth : Method} {c : Code} {G : zg_T} {Q : State → Prop} (C : zx_C p s m args meth c G RX2 cX2_learn 4) (oS : zs_T) (kont : ∀ (H : Heap) (locs : List Loc) (ls : Array Slot), zg_W G oS s H locs → lv_has ls 4 [] → W p l e zr_m_X2_learn s m args below meth c H locs 0 0 Q (F0 m 74 ls [])) : ∀ (n : Nat) (S : zs_T) (x2 : Int32), zl_2 (zb_X2_learn_2 16 17 3) n S x2 = some oS → ∀ (H : Heap) (locs : List Loc) (ls : Array Slot), zg_W G S s H locs → lv_has ls 4 [(0, .ref (zg_q G 15)), (1, .ref (zg_q G 3)), (2, .int x2)] → W p l e zr_m_X2_learn s m args below meth c H locs 0 0 Q (F0 m 2 ls []) := by
  intro n
  induction n with
  | zero => intro S x2 h; cases h
  | succ n ih =>
    intro S x2 h H locs ls w hl
    replace h : zb_X2_learn_2 16 17 3 (zl_2 (zb_X2_learn_2 16 17 3) n) S x2 = some oS := h
    generalize zl_2 (zb_X2_learn_2 16 17 3) n = rec at ih h
    unfold zb_X2_learn_2 at h
    refine lv_iload_n C.1 C.2.1 dX2_learn_2 rfl (lv_at hl 2 rfl) ?_
    refine lv_bipush (v := 8) C.1 C.2.1 dX2_learn_3 (by decide) ?_
    refine zr_ic_ge (tgt := 74) C dX2_learn_5 (by decide) h (fun h => ?_) (fun h => ?_)
    · cases h
      exact kont _ _ _ w (lv_sub hl [] rfl)
    · refine lv_aload_n C.1 C.2.1 dX2_learn_8 rfl (lv_at hl 0 rfl) ?_
      refine zr_get C w 15 zm_w_X2 (zw_g15 G _) rfl 1 (by decide) zm_f_X2_15 rfl dX2_learn_9 ?_
      refine lv_iload_n C.1 C.2.1 dX2_learn_12 rfl (lv_at hl 2 rfl) ?_
      refine lv_aload_n C.1 C.2.1 dX2_learn_13 rfl (lv_at hl 0 rfl) ?_
      refine zr_get C w 15 zm_w_X2 (zw_g15 G _) rfl 0 (by decide) zm_f_X2_9 rfl dX2_learn_14 ?_
      refine lv_iload_n C.1 C.2.1 dX2_learn_17 rfl (lv_at hl 2 rfl) ?_
      refine zr_iald C w 16 (zw_g16 G _) dX2_learn_18 h (fun h => ?_)
      refine zr_iast C w 17 (zw_g17 G _) (zw_s17 G _) dX2_learn_19 h (fun S1 H locs w h => ?_)
      refine lv_aload_n C.1 C.2.1 dX2_learn_20 rfl (lv_at hl 1 rfl) ?_
      refine lv_iload_n C.1 C.2.1 dX2_learn_21 rfl (lv_at hl 2 rfl) ?_
      refine zr_iald C w 3 (zw_g3 G _) dX2_learn_22 h (fun h => ?_)
      refine zr_getsN C w 2 (by decide) zm_n_X2_21 dX2_learn_23 ?_
      refine lv_iload_n C.1 C.2.1 dX2_learn_26 rfl (lv_at hl 2 rfl) ?_
      refine zr_tab C w 2 (by decide) (n := 8) rfl (g := zt_v2) rfl dX2_learn_27 h (fun h => ?_)
      refine lv_iadd C.1 C.2.1 dX2_learn_28 ?_
      refine zr_callSi C w (As := [.int ((S1.1 3 (Int32.toNatClampNeg x2)) + (zt_v2 (Int32.toNatClampNeg x2)))]) (zm_X4_cut l G _ _ _ rfl) zm_c_X4_cut zm_l_X2_24 zm_s_X4_cut zm_0_X4 zm_d_X4_cut ⟨rfl, rfl⟩ ⟨Nat.le_of_ble_eq_true rfl, Nat.le_of_ble_eq_true rfl⟩ hl.1 rfl rfl (Nat.le_of_ble_eq_true rfl) dX2_learn_29 ⟨Nat.le_of_ble_eq_true rfl, Nat.le_of_ble_eq_true rfl⟩ (fun H locs w => ?_)
      refine zr_lti h (fun v2 h => ?_)
      refine lv_sipush (v := 1024) C.1 C.2.1 dX2_learn_32 (by decide) ?_
      refine lv_imul C.1 C.2.1 dX2_learn_35 ?_
      refine zr_lti h (fun v3 h => ?_)
      refine lv_istore_n (lv' := [(3, .int v3), (0, .ref (zg_q G 15)), (1, .ref (zg_q G 3)), (2, .int x2)]) C.1 C.2.1 dX2_learn_36 rfl hl (by decide) rfl (fun ls hl => ?_)
      refine lv_aload_n C.1 C.2.1 dX2_learn_37 rfl (lv_at hl 1 rfl) ?_
      refine zr_get C w 15 zm_w_X2 (zw_g15 G _) rfl 0 (by decide) zm_f_X2_9 rfl dX2_learn_38 ?_
      refine lv_iload_n C.1 C.2.1 dX2_learn_41 rfl (lv_at hl 3 rfl) ?_
      refine lv_iconst (v := 2) C.1 C.2.1 dX2_learn_42 (by decide) ?_
      refine zr_gets C w 6 (by decide) zm_f_X2_30 dX2_learn_43 ?_
      refine lv_iload_n C.1 C.2.1 dX2_learn_46 rfl (lv_at hl 3 rfl) ?_
      refine zr_tab C w 6 (by decide) (n := 8) rfl (g := zt_v6) rfl dX2_learn_47 h (fun h => ?_)
      refine lv_iload_n C.1 C.2.1 dX2_learn_48 rfl (lv_at hl 0 rfl) ?_
      refine lv_iconst (v := 2) C.1 C.2.1 dX2_learn_49 (by decide) ?_
      refine zr_getsN C w 3 (by decide) zm_n_X2_33 dX2_learn_50 ?_
      refine lv_iload_n C.1 C.2.1 dX2_learn_53 rfl (lv_at hl 3 rfl) ?_
      refine zr_tab C w 3 (by decide) (n := 8) rfl (g := zt_v3) rfl dX2_learn_54 h (fun h => ?_)
      refine lv_imul C.1 C.2.1 dX2_learn_55 ?_
      refine lv_isub C.1 C.2.1 dX2_learn_56 ?_
      refine zr_callSi C w (As := [.int (v3 - ((2 : Int32) * (zt_v3 (Int32.toNatClampNeg x2))))]) (zm_X4_cut l G _ _ _ rfl) zm_c_X4_cut zm_l_X2_24 zm_s_X4_cut zm_0_X4 zm_d_X4_cut ⟨rfl, rfl⟩ ⟨Nat.le_of_ble_eq_true rfl, Nat.le_of_ble_eq_true rfl⟩ hl.1 rfl rfl (Nat.le_of_ble_eq_true rfl) dX2_learn_57 ⟨Nat.le_of_ble_eq_true rfl, Nat.le_of_ble_eq_true rfl⟩ (fun H locs w => ?_)
      refine zr_lti h (fun v4 h => ?_)
      refine zr_callSi C w (As := [.int (zt_v6 (Int32.toNatClampNeg x2)), .int v4]) (zm_X4_rounded l G _ _ _ _ rfl) zm_c_X4_rounded zm_l_X2_36 zm_s_X4_rounded zm_0_X4 zm_d_X4_rounded ⟨rfl, rfl⟩ ⟨Nat.le_of_ble_eq_true rfl, Nat.le_of_ble_eq_true rfl⟩ hl.1 rfl rfl (Nat.le_of_ble_eq_true rfl) dX2_learn_60 ⟨Nat.le_of_ble_eq_true rfl, Nat.le_of_ble_eq_true rfl⟩ (fun H locs w => ?_)
      refine zr_lti h (fun v5 h => ?_)
      refine lv_imul C.1 C.2.1 dX2_learn_63 ?_
      refine zr_callSi C w (As := [.int ((2 : Int32) * v5)]) (zm_X4_cut l G _ _ _ rfl) zm_c_X4_cut zm_l_X2_24 zm_s_X4_cut zm_0_X4 zm_d_X4_cut ⟨rfl, rfl⟩ ⟨Nat.le_of_ble_eq_true rfl, Nat.le_of_ble_eq_true rfl⟩ hl.1 rfl rfl (Nat.le_of_ble_eq_true rfl) dX2_learn_64 ⟨Nat.le_of_ble_eq_true rfl, Nat.le_of_ble_eq_true rfl⟩ (fun H locs w => ?_)
      refine zr_lti h (fun v6 h => ?_)
      refine zr_iast C w 16 (zw_g16 G _) (zw_s16 G _) dX2_learn_67 h (fun S7 H locs w h => ?_)
      obtain ⟨v8, e_, h⟩ := zc_lt_x h
      refine lv_iinc (v := v8) (lv' := [(2, .int v8), (3, .int v3), (0, .ref (zg_q G 15)), (1, .ref (zg_q G 3))]) C.1 C.2.1 dX2_learn_68 hl (k := 3) rfl (by subst e_; rfl) (by decide) rfl (fun ls hl => ?_)
      clear e_
      refine lv_goto (tgt := 2) C.1 C.2.1 dX2_learn_71 (by decide) ?_
      exact ih _ _ h _ _ _ w (lv_sub hl [2, 3, 0] rfl)
set_option maxHeartbeats 4000000 in
set_option maxRecDepth 100000 in
theorem zm_X2_learn_15_3 (l : Launch) (G : zg_T) (S : zs_T) (S1 : zs_T) (h : zf_X2_learn 16 17 3 S = some S1) : Met l yX2_learn (Cond.code yX2_learn cX2_learn 4 none :: zt_G) zr_m_X2_learn (va_Pc [.ref (zg_q G 15), .ref (zg_q G 3)] (zg_P G S)) (zg_Q G none S1) 0 0 (zg_A G) := by
  refine zx_met (by decide +kernel) (Nat.le_of_ble_eq_true rfl) (lv := [(0, .ref (zg_q G 15)), (1, .ref (zg_q G 3))]) rfl ?_
  intro p e s m below meth c C hr w ls hl
  replace C : zx_C p s m _ meth c G RX2 cX2_learn 4 := C
  unfold zf_X2_learn at h
  refine lv_iconst (v := 0) C.1 C.2.1 dX2_learn_0 (by decide) ?_
  refine lv_istore_n (lv' := [(2, .int (0 : Int32)), (0, .ref (zg_q G 15)), (1, .ref (zg_q G 3))]) C.1 C.2.1 dX2_learn_1 rfl hl (by decide) rfl (fun ls hl => ?_)
  obtain ⟨S9, hc, h⟩ := zc_b1_x h
  refine zk_X2_learn_2_15_3 C S9 (fun H locs ls w hl => ?_) _ _ _ hc _ _ _ w (lv_sub hl [1, 2, 0] rfl)
  clear hc
  exact zr_retv C w hr dX2_learn_74 (Option.some.inj h)
set_option maxHeartbeats 4000000 in
set_option maxRecDepth 100000 in
theorem zm_X2_between (l : Launch) (G : zg_T) (S : zs_T) (a1 : Int32) (a2 : Int32) (a3 : Int32) (r : Int32) (h : zf_X2_between a1 a2 a3 = r) : Met l yX2_between (Cond.code yX2_between cX2_between 4 (some .int) :: zt_G) zr_m_X2_between (va_Pc [.int a1, .int a2, .int a3] (zg_P G S)) (zg_Q G (some (.int r)) S) 0 0 (zg_A G) := by
  refine zx_met (by decide +kernel) (Nat.le_of_ble_eq_true rfl) (lv := [(0, .int a1), (1, .int a2), (2, .int a3)]) rfl ?_
  intro p e s m below meth c C hr w ls hl
  replace C : zx_C p s m _ meth c G RX2 cX2_between 4 := C
  unfold zf_X2_between at h
  refine lv_iload_n C.1 C.2.1 dX2_between_0 rfl (lv_at hl 1 rfl) ?_
  refine lv_iconst (v := 2) C.1 C.2.1 dX2_between_1 (by decide) ?_
  refine lv_ishr C.1 C.2.1 dX2_between_2 ?_
  refine lv_iload_n C.1 C.2.1 dX2_between_3 rfl (lv_at hl 2 rfl) ?_
  refine lv_iconst (v := 2) C.1 C.2.1 dX2_between_4 (by decide) ?_
  refine lv_ishr C.1 C.2.1 dX2_between_5 ?_
  refine lv_iadd C.1 C.2.1 dX2_between_6 ?_
  refine zr_callSi C w (As := [.int ((a2 >>> ((2 : Int32) &&& 31)) + (a3 >>> ((2 : Int32) &&& 31)))]) (zm_X4_cut l G _ _ _ rfl) zm_c_X4_cut zm_l_X2_24 zm_s_X4_cut zm_0_X4 zm_d_X4_cut ⟨rfl, rfl⟩ ⟨Nat.le_of_ble_eq_true rfl, Nat.le_of_ble_eq_true rfl⟩ hl.1 rfl rfl (Nat.le_of_ble_eq_true rfl) dX2_between_7 ⟨Nat.le_of_ble_eq_true rfl, Nat.le_of_ble_eq_true rfl⟩ (fun H locs w => ?_)
  refine zr_lti h (fun v1 h => ?_)
  refine lv_istore_n (lv' := [(3, .int v1), (0, .int a1), (1, .int a2), (2, .int a3)]) C.1 C.2.1 dX2_between_10 rfl hl (by decide) rfl (fun ls hl => ?_)
  refine lv_iload_n C.1 C.2.1 dX2_between_11 rfl (lv_at hl 1 rfl) ?_
  by_cases c0 : a1 = (0 : Int32)
  · replace h := (if_pos c0).symm.trans h
    refine lv_tableIn (tgt := 40) C.1 C.2.1 dX2_between_12 (by rw [c0]; decide) (by rw [c0]; decide) (by rw [c0]; rfl) (by decide) ?_
    refine lv_iload_n C.1 C.2.1 dX2_between_40 rfl (lv_at hl 0 rfl) ?_
    refine lv_iload_n C.1 C.2.1 dX2_between_41 rfl (lv_at hl 2 rfl) ?_
    refine lv_iconst (v := 1) C.1 C.2.1 dX2_between_42 (by decide) ?_
    refine lv_ishr C.1 C.2.1 dX2_between_43 ?_
    refine lv_iadd C.1 C.2.1 dX2_between_44 ?_
    refine zr_callSi C w (As := [.int (v1 + (a2 >>> ((1 : Int32) &&& 31)))]) (zm_X4_cut l G _ _ _ rfl) zm_c_X4_cut zm_l_X2_24 zm_s_X4_cut zm_0_X4 zm_d_X4_cut ⟨rfl, rfl⟩ ⟨Nat.le_of_ble_eq_true rfl, Nat.le_of_ble_eq_true rfl⟩ hl.1 rfl rfl (Nat.le_of_ble_eq_true rfl) dX2_between_45 ⟨Nat.le_of_ble_eq_true rfl, Nat.le_of_ble_eq_true rfl⟩ (fun H locs w => ?_)
    refine zr_lti h (fun v2 h => ?_)
    exact zr_reti C w hr dX2_between_48 h rfl
  replace h := (if_neg c0).symm.trans h
  by_cases c1 : a1 = (1 : Int32)
  · replace h := (if_pos c1).symm.trans h
    refine lv_tableIn (tgt := 49) C.1 C.2.1 dX2_between_12 (by rw [c1]; decide) (by rw [c1]; decide) (by rw [c1]; rfl) (by decide) ?_
    refine lv_iload_n C.1 C.2.1 dX2_between_49 rfl (lv_at hl 2 rfl) ?_
    refine lv_iconst (v := 1) C.1 C.2.1 dX2_between_50 (by decide) ?_
    refine lv_ishr C.1 C.2.1 dX2_between_51 ?_
    refine lv_iload_n C.1 C.2.1 dX2_between_52 rfl (lv_at hl 3 rfl) ?_
    refine lv_iconst (v := 1) C.1 C.2.1 dX2_between_53 (by decide) ?_
    refine lv_ishr C.1 C.2.1 dX2_between_54 ?_
    refine lv_iadd C.1 C.2.1 dX2_between_55 ?_
    refine zr_callSi C w (As := [.int ((a2 >>> ((1 : Int32) &&& 31)) + (a3 >>> ((1 : Int32) &&& 31)))]) (zm_X4_cut l G _ _ _ rfl) zm_c_X4_cut zm_l_X2_24 zm_s_X4_cut zm_0_X4 zm_d_X4_cut ⟨rfl, rfl⟩ ⟨Nat.le_of_ble_eq_true rfl, Nat.le_of_ble_eq_true rfl⟩ hl.1 rfl rfl (Nat.le_of_ble_eq_true rfl) dX2_between_56 ⟨Nat.le_of_ble_eq_true rfl, Nat.le_of_ble_eq_true rfl⟩ (fun H locs w => ?_)
    refine zr_lti h (fun v3 h => ?_)
    exact zr_reti C w hr dX2_between_59 h rfl
  replace h := (if_neg c1).symm.trans h
  by_cases c2 : a1 = (2 : Int32)
  · replace h := (if_pos c2).symm.trans h
    refine lv_tableIn (tgt := 60) C.1 C.2.1 dX2_between_12 (by rw [c2]; decide) (by rw [c2]; decide) (by rw [c2]; rfl) (by decide) ?_
    refine lv_iload_n C.1 C.2.1 dX2_between_60 rfl (lv_at hl 0 rfl) ?_
    refine lv_iload_n C.1 C.2.1 dX2_between_61 rfl (lv_at hl 3 rfl) ?_
    refine lv_iconst (v := 1) C.1 C.2.1 dX2_between_62 (by decide) ?_
    refine lv_ishr C.1 C.2.1 dX2_between_63 ?_
    refine lv_iadd C.1 C.2.1 dX2_between_64 ?_
    refine zr_callSi C w (As := [.int (v1 + (a3 >>> ((1 : Int32) &&& 31)))]) (zm_X4_cut l G _ _ _ rfl) zm_c_X4_cut zm_l_X2_24 zm_s_X4_cut zm_0_X4 zm_d_X4_cut ⟨rfl, rfl⟩ ⟨Nat.le_of_ble_eq_true rfl, Nat.le_of_ble_eq_true rfl⟩ hl.1 rfl rfl (Nat.le_of_ble_eq_true rfl) dX2_between_65 ⟨Nat.le_of_ble_eq_true rfl, Nat.le_of_ble_eq_true rfl⟩ (fun H locs w => ?_)
    refine zr_lti h (fun v4 h => ?_)
    exact zr_reti C w hr dX2_between_68 h rfl
  replace h := (if_neg c2).symm.trans h
  refine lv_tableOut (tgt := 69) C.1 C.2.1 dX2_between_12 (by have q0 := lv_neT (a := 0) c0 rfl; have q1 := lv_neT (a := 1) c1 rfl; have q2 := lv_neT (a := 2) c2 rfl; omega) (by decide) ?_
  refine lv_iload_n C.1 C.2.1 dX2_between_69 rfl (lv_at hl 3 rfl) ?_
  exact zr_reti C w hr dX2_between_70 h rfl
set_option maxHeartbeats 4000000 in
set_option maxRecDepth 100000 in
theorem zm_X2_straight (l : Launch) (G : zg_T) (S : zs_T) (a1 : Int32) (r : Int32) (h : zf_X2_straight a1 = r) : Met l yX2_straight (Cond.code yX2_straight cX2_straight 3 (some .int) :: zt_G) zr_m_X2_straight (va_Pc [.int a1] (zg_P G S)) (zg_Q G (some (.int r)) S) 0 0 (zg_A G) := by
  refine zx_met (by decide +kernel) (Nat.le_of_ble_eq_true rfl) (lv := [(0, .int a1)]) rfl ?_
  intro p e s m below meth c C hr w ls hl
  replace C : zx_C p s m _ meth c G RX2 cX2_straight 3 := C
  unfold zf_X2_straight at h
  refine lv_iload_n C.1 C.2.1 dX2_straight_0 rfl (lv_at hl 0 rfl) ?_
  refine zr_callSi C w (As := [.int a1]) (zm_X4_size l G _ _ _ rfl) zm_c_X4_size zm_l_X2_53 zm_s_X4_size zm_0_X4 zm_d_X4_size ⟨rfl, rfl⟩ ⟨Nat.le_of_ble_eq_true rfl, Nat.le_of_ble_eq_true rfl⟩ hl.1 rfl rfl (Nat.le_of_ble_eq_true rfl) dX2_straight_1 ⟨Nat.le_of_ble_eq_true rfl, Nat.le_of_ble_eq_true rfl⟩ (fun H locs w => ?_)
  refine zr_lti h (fun v1 h => ?_)
  refine lv_istore_n (lv' := [(1, .int v1), (0, .int a1)]) C.1 C.2.1 dX2_straight_4 rfl hl (by decide) rfl (fun ls hl => ?_)
  refine lv_iload_n C.1 C.2.1 dX2_straight_5 rfl (lv_at hl 0 rfl) ?_
  refine lv_sipush (v := 11059) C.1 C.2.1 dX2_straight_6 (by decide) ?_
  refine zr_ic_ge (tgt := 18) C dX2_straight_9 (by decide) h (fun h => ?_) (fun h => ?_)
  · refine lv_iload_n C.1 C.2.1 dX2_straight_18 rfl (lv_at hl 0 rfl) ?_
    refine lv_sipush (v := 20070) C.1 C.2.1 dX2_straight_19 (by decide) ?_
    refine zr_ic_ge (tgt := 33) C dX2_straight_22 (by decide) h (fun h => ?_) (fun h => ?_)
    · refine lv_iload_n C.1 C.2.1 dX2_straight_33 rfl (lv_at hl 0 rfl) ?_
      refine lv_iconst (v := 2) C.1 C.2.1 dX2_straight_34 (by decide) ?_
      refine lv_ishr C.1 C.2.1 dX2_straight_35 ?_
      refine lv_sipush (v := 26112) C.1 C.2.1 dX2_straight_36 (by decide) ?_
      refine lv_iadd C.1 C.2.1 dX2_straight_39 ?_
      refine zr_callSi C w (As := [.int ((v1 >>> ((2 : Int32) &&& 31)) + (26112 : Int32))]) (zm_X4_cut l G _ _ _ rfl) zm_c_X4_cut zm_l_X2_24 zm_s_X4_cut zm_0_X4 zm_d_X4_cut ⟨rfl, rfl⟩ ⟨Nat.le_of_ble_eq_true rfl, Nat.le_of_ble_eq_true rfl⟩ hl.1 rfl rfl (Nat.le_of_ble_eq_true rfl) dX2_straight_40 ⟨Nat.le_of_ble_eq_true rfl, Nat.le_of_ble_eq_true rfl⟩ (fun H locs w => ?_)
      refine zr_lti h (fun v2 h => ?_)
      refine lv_istore_n (lv' := [(2, .int v2), (1, .int v1), (0, .int a1)]) C.1 C.2.1 dX2_straight_43 rfl hl (by decide) rfl (fun ls hl => ?_)
      refine lv_iload_n C.1 C.2.1 dX2_straight_44 rfl (lv_at hl 2 rfl) ?_
      refine lv_iload_n C.1 C.2.1 dX2_straight_45 rfl (lv_at hl 0 rfl) ?_
      refine zr_callSi C w (As := [.int a1, .int v2]) (zm_X4_withSignOf l G _ _ _ _ rfl) zm_c_X4_withSignOf zm_l_X2_56 zm_s_X4_withSignOf zm_0_X4 zm_d_X4_withSignOf ⟨rfl, rfl⟩ ⟨Nat.le_of_ble_eq_true rfl, Nat.le_of_ble_eq_true rfl⟩ hl.1 rfl rfl (Nat.le_of_ble_eq_true rfl) dX2_straight_46 ⟨Nat.le_of_ble_eq_true rfl, Nat.le_of_ble_eq_true rfl⟩ (fun H locs w => ?_)
      refine zr_lti h (fun v3 h => ?_)
      exact zr_reti C w hr dX2_straight_49 h rfl
    · refine lv_iload_n C.1 C.2.1 dX2_straight_25 rfl (lv_at hl 0 rfl) ?_
      refine lv_sipush (v := 11059) C.1 C.2.1 dX2_straight_26 (by decide) ?_
      refine lv_iadd C.1 C.2.1 dX2_straight_29 ?_
      refine lv_goto (tgt := 43) C.1 C.2.1 dX2_straight_30 (by decide) ?_
      refine zr_lti h (fun v4 h => ?_)
      refine lv_istore_n (lv' := [(2, .int v4), (1, .int v1), (0, .int a1)]) C.1 C.2.1 dX2_straight_43 rfl hl (by decide) rfl (fun ls hl => ?_)
      refine lv_iload_n C.1 C.2.1 dX2_straight_44 rfl (lv_at hl 2 rfl) ?_
      refine lv_iload_n C.1 C.2.1 dX2_straight_45 rfl (lv_at hl 0 rfl) ?_
      refine zr_callSi C w (As := [.int a1, .int v4]) (zm_X4_withSignOf l G _ _ _ _ rfl) zm_c_X4_withSignOf zm_l_X2_56 zm_s_X4_withSignOf zm_0_X4 zm_d_X4_withSignOf ⟨rfl, rfl⟩ ⟨Nat.le_of_ble_eq_true rfl, Nat.le_of_ble_eq_true rfl⟩ hl.1 rfl rfl (Nat.le_of_ble_eq_true rfl) dX2_straight_46 ⟨Nat.le_of_ble_eq_true rfl, Nat.le_of_ble_eq_true rfl⟩ (fun H locs w => ?_)
      refine zr_lti h (fun v5 h => ?_)
      exact zr_reti C w hr dX2_straight_49 h rfl
  · refine lv_iconst (v := 2) C.1 C.2.1 dX2_straight_12 (by decide) ?_
    refine lv_iload_n C.1 C.2.1 dX2_straight_13 rfl (lv_at hl 0 rfl) ?_
    refine lv_imul C.1 C.2.1 dX2_straight_14 ?_
    refine lv_goto (tgt := 43) C.1 C.2.1 dX2_straight_15 (by decide) ?_
    refine zr_lti h (fun v6 h => ?_)
    refine lv_istore_n (lv' := [(2, .int v6), (1, .int v1), (0, .int a1)]) C.1 C.2.1 dX2_straight_43 rfl hl (by decide) rfl (fun ls hl => ?_)
    refine lv_iload_n C.1 C.2.1 dX2_straight_44 rfl (lv_at hl 2 rfl) ?_
    refine lv_iload_n C.1 C.2.1 dX2_straight_45 rfl (lv_at hl 0 rfl) ?_
    refine zr_callSi C w (As := [.int a1, .int v6]) (zm_X4_withSignOf l G _ _ _ _ rfl) zm_c_X4_withSignOf zm_l_X2_56 zm_s_X4_withSignOf zm_0_X4 zm_d_X4_withSignOf ⟨rfl, rfl⟩ ⟨Nat.le_of_ble_eq_true rfl, Nat.le_of_ble_eq_true rfl⟩ hl.1 rfl rfl (Nat.le_of_ble_eq_true rfl) dX2_straight_46 ⟨Nat.le_of_ble_eq_true rfl, Nat.le_of_ble_eq_true rfl⟩ (fun H locs w => ?_)
    refine zr_lti h (fun v7 h => ?_)
    exact zr_reti C w hr dX2_straight_49 h rfl
set_option maxHeartbeats 4000000 in
set_option maxRecDepth 100000 in
theorem zk_X2_shape_2_15 {p : Program} {l : Launch} {e : Env} {s : State} {m : MethodId} {args : Array Value} {below : List Frame} {meth : Method} {c : Code} {G : zg_T} {Q : State → Prop} (C : zx_C p s m args meth c G RX2 cX2_shape 3) (f1 : Int32) (oS : zs_T) (kont : ∀ (H : Heap) (locs : List Loc) (ls : Array Slot), zg_W G oS s H locs → lv_has ls 3 [] → W p l e zr_m_X2_shape s m args below meth c H locs 0 0 Q (F0 m 39 ls [])) : ∀ (n : Nat) (S : zs_T) (x2 : Int32), zl_2 (zb_X2_shape_2 17 16 18 f1) n S x2 = some oS → ∀ (H : Heap) (locs : List Loc) (ls : Array Slot), zg_W G S s H locs → lv_has ls 3 [(0, .ref (zg_q G 15)), (1, .int f1), (2, .int x2)] → W p l e zr_m_X2_shape s m args below meth c H locs 0 0 Q (F0 m 2 ls []) := by
  intro n
  induction n with
  | zero => intro S x2 h; cases h
  | succ n ih =>
    intro S x2 h H locs ls w hl
    replace h : zb_X2_shape_2 17 16 18 f1 (zl_2 (zb_X2_shape_2 17 16 18 f1) n) S x2 = some oS := h
    generalize zl_2 (zb_X2_shape_2 17 16 18 f1) n = rec at ih h
    unfold zb_X2_shape_2 at h
    refine lv_iload_n C.1 C.2.1 dX2_shape_2 rfl (lv_at hl 2 rfl) ?_
    refine lv_bipush (v := 8) C.1 C.2.1 dX2_shape_3 (by decide) ?_
    refine zr_ic_ge (tgt := 39) C dX2_shape_5 (by decide) h (fun h => ?_) (fun h => ?_)
    · cases h
      exact kont _ _ _ w (lv_sub hl [] rfl)
    · refine lv_aload_n C.1 C.2.1 dX2_shape_8 rfl (lv_at hl 0 rfl) ?_
      refine zr_get C w 15 zm_w_X2 (zw_g15 G _) rfl 2 (by decide) zm_f_X2_18 rfl dX2_shape_9 ?_
      refine lv_iload_n C.1 C.2.1 dX2_shape_12 rfl (lv_at hl 2 rfl) ?_
      refine lv_iload_n C.1 C.2.1 dX2_shape_13 rfl (lv_at hl 1 rfl) ?_
      refine lv_aload_n C.1 C.2.1 dX2_shape_14 rfl (lv_at hl 0 rfl) ?_
      refine zr_get C w 15 zm_w_X2 (zw_g15 G _) rfl 1 (by decide) zm_f_X2_15 rfl dX2_shape_15 ?_
      refine lv_iload_n C.1 C.2.1 dX2_shape_18 rfl (lv_at hl 2 rfl) ?_
      refine zr_iald C w 17 (zw_g17 G _) dX2_shape_19 h (fun h => ?_)
      refine lv_aload_n C.1 C.2.1 dX2_shape_20 rfl (lv_at hl 0 rfl) ?_
      refine zr_get C w 15 zm_w_X2 (zw_g15 G _) rfl 0 (by decide) zm_f_X2_9 rfl dX2_shape_21 ?_
      refine lv_iload_n C.1 C.2.1 dX2_shape_24 rfl (lv_at hl 2 rfl) ?_
      refine zr_iald C w 16 (zw_g16 G _) dX2_shape_25 h (fun h => ?_)
      refine zr_callSi C w (As := [.int f1, .int (S.1 17 (Int32.toNatClampNeg x2)), .int (S.1 16 (Int32.toNatClampNeg x2))]) (zm_X2_between l G _ _ _ _ _ rfl) zm_c_X2_between zm_l_X2_40 zm_s_X2_between zm_0_X2 zm_d_X2_between ⟨rfl, rfl⟩ ⟨Nat.le_of_ble_eq_true rfl, Nat.le_of_ble_eq_true rfl⟩ hl.1 rfl rfl (Nat.le_of_ble_eq_true rfl) dX2_shape_26 ⟨Nat.le_of_ble_eq_true rfl, Nat.le_of_ble_eq_true rfl⟩ (fun H locs w => ?_)
      refine zr_lti h (fun v1 h => ?_)
      refine zr_callSi C w (As := [.int v1]) (zm_X2_straight l G _ _ _ rfl) zm_c_X2_straight zm_l_X2_44 zm_s_X2_straight zm_0_X2 zm_d_X2_straight ⟨rfl, rfl⟩ ⟨Nat.le_of_ble_eq_true rfl, Nat.le_of_ble_eq_true rfl⟩ hl.1 rfl rfl (Nat.le_of_ble_eq_true rfl) dX2_shape_29 ⟨Nat.le_of_ble_eq_true rfl, Nat.le_of_ble_eq_true rfl⟩ (fun H locs w => ?_)
      refine zr_lti h (fun v2 h => ?_)
      refine zr_iast C w 18 (zw_g18 G _) (zw_s18 G _) dX2_shape_32 h (fun S3 H locs w h => ?_)
      obtain ⟨v4, e_, h⟩ := zc_lt_x h
      refine lv_iinc (v := v4) (lv' := [(2, .int v4), (0, .ref (zg_q G 15)), (1, .int f1)]) C.1 C.2.1 dX2_shape_33 hl (k := 2) rfl (by subst e_; rfl) (by decide) rfl (fun ls hl => ?_)
      clear e_
      refine lv_goto (tgt := 2) C.1 C.2.1 dX2_shape_36 (by decide) ?_
      exact ih _ _ h _ _ _ w (lv_sub hl [1, 2, 0] rfl)
set_option maxHeartbeats 4000000 in
set_option maxRecDepth 100000 in
theorem zm_X2_shape_15 (l : Launch) (G : zg_T) (S : zs_T) (a1 : Int32) (S1 : zs_T) (h : zf_X2_shape 17 16 18 S a1 = some S1) : Met l yX2_shape (Cond.code yX2_shape cX2_shape 3 none :: zt_G) zr_m_X2_shape (va_Pc [.ref (zg_q G 15), .int a1] (zg_P G S)) (zg_Q G none S1) 0 0 (zg_A G) := by
  refine zx_met (by decide +kernel) (Nat.le_of_ble_eq_true rfl) (lv := [(0, .ref (zg_q G 15)), (1, .int a1)]) rfl ?_
  intro p e s m below meth c C hr w ls hl
  replace C : zx_C p s m _ meth c G RX2 cX2_shape 3 := C
  unfold zf_X2_shape at h
  refine lv_iconst (v := 0) C.1 C.2.1 dX2_shape_0 (by decide) ?_
  refine lv_istore_n (lv' := [(2, .int (0 : Int32)), (0, .ref (zg_q G 15)), (1, .int a1)]) C.1 C.2.1 dX2_shape_1 rfl hl (by decide) rfl (fun ls hl => ?_)
  obtain ⟨S5, hc, h⟩ := zc_b1_x h
  refine zk_X2_shape_2_15 C a1 S5 (fun H locs ls w hl => ?_) _ _ _ hc _ _ _ w (lv_sub hl [1, 2, 0] rfl)
  clear hc
  exact zr_retv C w hr dX2_shape_39 (Option.some.inj h)
set_option maxHeartbeats 4000000 in
set_option maxRecDepth 100000 in
theorem zk_X1_left_7 {p : Program} {l : Launch} {e : Env} {s : State} {m : MethodId} {args : Array Value} {below : List Frame} {meth : Method} {c : Code} {G : zg_T} {Q : State → Prop} (C : zx_C p s m args meth c G RX1 cX1_left 7) (oS : zs_T) (o2 : Int32) (kont : ∀ (H : Heap) (locs : List Loc) (ls : Array Slot), zg_W G oS s H locs → lv_has ls 7 [(2, .int o2)] → W p l e zr_m_X1_left s m args below meth c H locs 0 0 Q (F0 m 75 ls [])) : ∀ (n : Nat) (S : zs_T) (x2 : Int32) (x3 : Int32) (x4 : Int32), zl_4 (zb_X1_left_7) n S x2 x3 x4 = some (oS, o2) → ∀ (H : Heap) (locs : List Loc) (ls : Array Slot), zg_W G S s H locs → lv_has ls 7 [(0, .ref (zg_q G 5)), (2, .int x2), (3, .int x3), (4, .int x4)] → W p l e zr_m_X1_left s m args below meth c H locs 0 0 Q (F0 m 7 ls []) := by
  intro n
  induction n with
  | zero => intro S x2 x3 x4 h; cases h
  | succ n ih =>
    intro S x2 x3 x4 h H locs ls w hl
    replace h : zb_X1_left_7 (zl_4 (zb_X1_left_7) n) S x2 x3 x4 = some (oS, o2) := h
    generalize zl_4 (zb_X1_left_7) n = rec at ih h
    unfold zb_X1_left_7 at h
    refine lv_iload C.1 C.2.1 dX1_left_7 (lv_at hl 3 rfl) ?_
    refine lv_bipush (v := 8) C.1 C.2.1 dX1_left_9 (by decide) ?_
    refine zr_ic_ge (tgt := 75) C dX1_left_11 (by decide) h (fun h => ?_) (fun h => ?_)
    · cases h
      exact kont _ _ _ w (lv_sub hl [1] rfl)
    · refine lv_aload_n C.1 C.2.1 dX1_left_14 rfl (lv_at hl 0 rfl) ?_
      refine zr_get C w 5 zm_w_X1 (zw_g5 G _) rfl 2 (by decide) zm_f_X1_28 rfl dX1_left_15 ?_
      refine zr_getN C w 15 zm_w_X2 (zw_g15 G _) rfl 2 (by decide) zm_n_X1_114 rfl dX1_left_18 ?_
      refine lv_iload C.1 C.2.1 dX1_left_21 (lv_at hl 3 rfl) ?_
      refine zr_iald C w 18 (zw_g18 G _) dX1_left_23 h (fun h => ?_)
      refine zr_lti h (fun v1 h => ?_)
      refine lv_istore (lv' := [(5, .int v1), (0, .ref (zg_q G 5)), (2, .int x2), (3, .int x3), (4, .int x4)]) C.1 C.2.1 dX1_left_24 hl (by decide) rfl (fun ls hl => ?_)
      refine lv_aload_n C.1 C.2.1 dX1_left_26 rfl (lv_at hl 1 rfl) ?_
      refine zr_get C w 5 zm_w_X1 (zw_g5 G _) rfl 8 (by decide) zm_f_X1_64 rfl dX1_left_27 ?_
      refine lv_iload C.1 C.2.1 dX1_left_30 (lv_at hl 4 rfl) ?_
      refine zr_iald C w 7 (zw_g7 G _) dX1_left_32 h (fun h => ?_)
      refine zr_lti h (fun v2 h => ?_)
      refine lv_istore (lv' := [(6, .int v2), (5, .int v1), (0, .ref (zg_q G 5)), (2, .int x2), (3, .int x3), (4, .int x4)]) C.1 C.2.1 dX1_left_33 hl (by decide) rfl (fun ls hl => ?_)
      refine lv_aload_n C.1 C.2.1 dX1_left_35 rfl (lv_at hl 2 rfl) ?_
      refine zr_get C w 5 zm_w_X1 (zw_g5 G _) rfl 8 (by decide) zm_f_X1_64 rfl dX1_left_36 ?_
      refine lv_iload C.1 C.2.1 dX1_left_39 (lv_at hl 5 rfl) ?_
      refine lv_iload_n C.1 C.2.1 dX1_left_41 rfl (lv_at hl 4 rfl) ?_
      refine zr_iast C w 7 (zw_g7 G _) (zw_s7 G _) dX1_left_42 h (fun S3 H locs w h => ?_)
      refine lv_iload C.1 C.2.1 dX1_left_43 (lv_at hl 0 rfl) ?_
      refine lv_iload C.1 C.2.1 dX1_left_45 (lv_at hl 1 rfl) ?_
      refine lv_iload_n C.1 C.2.1 dX1_left_47 rfl (lv_at hl 3 rfl) ?_
      refine zr_callSi C w (As := [.int v1, .int x2]) (zm_X4_rounded l G _ _ _ _ rfl) zm_c_X4_rounded zm_l_X1_117 zm_s_X4_rounded zm_0_X4 zm_d_X4_rounded ⟨rfl, rfl⟩ ⟨Nat.le_of_ble_eq_true rfl, Nat.le_of_ble_eq_true rfl⟩ hl.1 rfl rfl (Nat.le_of_ble_eq_true rfl) dX1_left_48 ⟨Nat.le_of_ble_eq_true rfl, Nat.le_of_ble_eq_true rfl⟩ (fun H locs w => ?_)
      refine zr_lti h (fun v4 h => ?_)
      refine lv_iadd C.1 C.2.1 dX1_left_51 ?_
      refine zr_callSi C w (As := [.int (v2 + v4)]) (zm_X4_cut l G _ _ _ rfl) zm_c_X4_cut zm_l_X1_123 zm_s_X4_cut zm_0_X4 zm_d_X4_cut ⟨rfl, rfl⟩ ⟨Nat.le_of_ble_eq_true rfl, Nat.le_of_ble_eq_true rfl⟩ hl.1 rfl rfl (Nat.le_of_ble_eq_true rfl) dX1_left_52 ⟨Nat.le_of_ble_eq_true rfl, Nat.le_of_ble_eq_true rfl⟩ (fun H locs w => ?_)
      refine zr_lti h (fun v5 h => ?_)
      refine lv_istore_n (lv' := [(3, .int v5), (6, .int v2), (5, .int v1), (0, .ref (zg_q G 5)), (2, .int x2), (4, .int x4)]) C.1 C.2.1 dX1_left_55 rfl hl (by decide) rfl (fun ls hl => ?_)
      refine lv_iload_n C.1 C.2.1 dX1_left_56 rfl (lv_at hl 4 rfl) ?_
      refine lv_iload C.1 C.2.1 dX1_left_57 (lv_at hl 2 rfl) ?_
      refine lv_iload C.1 C.2.1 dX1_left_59 (lv_at hl 1 rfl) ?_
      refine zr_callSi C w (As := [.int v1, .int v2]) (zm_X4_rounded l G _ _ _ _ rfl) zm_c_X4_rounded zm_l_X1_117 zm_s_X4_rounded zm_0_X4 zm_d_X4_rounded ⟨rfl, rfl⟩ ⟨Nat.le_of_ble_eq_true rfl, Nat.le_of_ble_eq_true rfl⟩ hl.1 rfl rfl (Nat.le_of_ble_eq_true rfl) dX1_left_61 ⟨Nat.le_of_ble_eq_true rfl, Nat.le_of_ble_eq_true rfl⟩ (fun H locs w => ?_)
      refine zr_lti h (fun v6 h => ?_)
      refine lv_iadd C.1 C.2.1 dX1_left_64 ?_
      refine zr_callSi C w (As := [.int (x2 + v6)]) (zm_X4_cut l G _ _ _ rfl) zm_c_X4_cut zm_l_X1_123 zm_s_X4_cut zm_0_X4 zm_d_X4_cut ⟨rfl, rfl⟩ ⟨Nat.le_of_ble_eq_true rfl, Nat.le_of_ble_eq_true rfl⟩ hl.1 rfl rfl (Nat.le_of_ble_eq_true rfl) dX1_left_65 ⟨Nat.le_of_ble_eq_true rfl, Nat.le_of_ble_eq_true rfl⟩ (fun H locs w => ?_)
      refine zr_lti h (fun v7 h => ?_)
      refine lv_istore_n (lv' := [(2, .int v7), (3, .int v5), (6, .int v2), (5, .int v1), (0, .ref (zg_q G 5)), (4, .int x4)]) C.1 C.2.1 dX1_left_68 rfl hl (by decide) rfl (fun ls hl => ?_)
      obtain ⟨v8, e_, h⟩ := zc_lt_x h
      refine lv_iinc (v := v8) (lv' := [(4, .int v8), (2, .int v7), (3, .int v5), (6, .int v2), (5, .int v1), (0, .ref (zg_q G 5))]) C.1 C.2.1 dX1_left_69 hl (k := 5) rfl (by subst e_; rfl) (by decide) rfl (fun ls hl => ?_)
      clear e_
      refine lv_goto (tgt := 7) C.1 C.2.1 dX1_left_72 (by decide) ?_
      exact ih _ _ _ _ h _ _ _ w (lv_sub hl [5, 1, 2, 0] rfl)
set_option maxHeartbeats 4000000 in
set_option maxRecDepth 100000 in
theorem zm_X1_left (l : Launch) (G : zg_T) (S : zs_T) (a1 : Int32) (r : Int32) (S1 : zs_T) (h : zf_X1_left S a1 = some (r, S1)) : Met l yX1_left (Cond.code yX1_left cX1_left 7 (some .int) :: zt_G) zr_m_X1_left (va_Pc [.ref (zg_q G 5), .int a1] (zg_P G S)) (zg_Q G (some (.int r)) S1) 0 0 (zg_A G) := by
  refine zx_met (by decide +kernel) (Nat.le_of_ble_eq_true rfl) (lv := [(0, .ref (zg_q G 5)), (1, .int a1)]) rfl ?_
  intro p e s m below meth c C hr w ls hl
  replace C : zx_C p s m _ meth c G RX1 cX1_left 7 := C
  unfold zf_X1_left at h
  refine lv_iload_n C.1 C.2.1 dX1_left_0 rfl (lv_at hl 1 rfl) ?_
  refine lv_istore_n (lv' := [(2, .int a1), (0, .ref (zg_q G 5)), (1, .int a1)]) C.1 C.2.1 dX1_left_1 rfl hl (by decide) rfl (fun ls hl => ?_)
  refine lv_iload_n C.1 C.2.1 dX1_left_2 rfl (lv_at hl 2 rfl) ?_
  refine lv_istore_n (lv' := [(3, .int a1), (2, .int a1), (0, .ref (zg_q G 5)), (1, .int a1)]) C.1 C.2.1 dX1_left_3 rfl hl (by decide) rfl (fun ls hl => ?_)
  refine lv_iconst (v := 0) C.1 C.2.1 dX1_left_4 (by decide) ?_
  refine lv_istore (lv' := [(4, .int (0 : Int32)), (3, .int a1), (2, .int a1), (0, .ref (zg_q G 5)), (1, .int a1)]) C.1 C.2.1 dX1_left_5 hl (by decide) rfl (fun ls hl => ?_)
  obtain ⟨S9, v10, hc, h⟩ := zc_b2_x h
  refine zk_X1_left_7 C S9 v10 (fun H locs ls w hl => ?_) _ _ _ _ _ hc _ _ _ w (lv_sub hl [3, 2, 1, 0] rfl)
  clear hc
  refine lv_iload_n C.1 C.2.1 dX1_left_75 rfl (lv_at hl 0 rfl) ?_
  exact zr_reti C w hr dX1_left_76 (congrArg Prod.fst (Option.some.inj h)) (congrArg Prod.snd (Option.some.inj h))
set_option maxHeartbeats 4000000 in
set_option maxRecDepth 100000 in
theorem zk_X1_takeAway_20 {p : Program} {l : Launch} {e : Env} {s : State} {m : MethodId} {args : Array Value} {below : List Frame} {meth : Method} {c : Code} {G : zg_T} {Q : State → Prop} (C : zx_C p s m args meth c G RX1 cX1_takeAway 3) (f2 : Int32) (oS : zs_T) (o1 : Int32) (kont : ∀ (H : Heap) (locs : List Loc) (ls : Array Slot), zg_W G oS s H locs → lv_has ls 3 [(0, .ref (zg_q G 5)), (1, .int o1), (2, .int f2)] → W p l e zr_m_X1_takeAway s m args below meth c H locs 0 0 Q (F0 m 51 ls [])) : ∀ (n : Nat) (S : zs_T) (x1 : Int32), zl_2 (zb_X1_takeAway_20 f2) n S x1 = some (oS, o1) → ∀ (H : Heap) (locs : List Loc) (ls : Array Slot), zg_W G S s H locs → lv_has ls 3 [(0, .ref (zg_q G 5)), (1, .int x1), (2, .int f2)] → W p l e zr_m_X1_takeAway s m args below meth c H locs 0 0 Q (F0 m 20 ls []) := by
  intro n
  induction n with
  | zero => intro S x1 h; cases h
  | succ n ih =>
    intro S x1 h H locs ls w hl
    replace h : zb_X1_takeAway_20 f2 (zl_2 (zb_X1_takeAway_20 f2) n) S x1 = some (oS, o1) := h
    generalize zl_2 (zb_X1_takeAway_20 f2) n = rec at ih h
    unfold zb_X1_takeAway_20 at h
    refine lv_iload_n C.1 C.2.1 dX1_takeAway_20 rfl (lv_at hl 1 rfl) ?_
    refine zr_getsN C w 7 (by decide) zm_n_X1_103 dX1_takeAway_21 ?_
    refine lv_iload_n C.1 C.2.1 dX1_takeAway_24 rfl (lv_at hl 2 rfl) ?_
    refine zr_tab C w 7 (by decide) (n := 4) rfl (g := zt_v7) rfl dX1_takeAway_25 h (fun h => ?_)
    refine zr_ic_ge (tgt := 51) C dX1_takeAway_26 (by decide) h (fun h => ?_) (fun h => ?_)
    · cases h
      exact kont _ _ _ w (lv_sub hl [0, 1, 2] rfl)
    · refine lv_aload_n C.1 C.2.1 dX1_takeAway_29 rfl (lv_at hl 0 rfl) ?_
      refine zr_get C w 5 zm_w_X1 (zw_g5 G _) rfl 7 (by decide) zm_f_X1_60 rfl dX1_takeAway_30 ?_
      refine lv_iload_n C.1 C.2.1 dX1_takeAway_33 rfl (lv_at hl 1 rfl) ?_
      refine lv_aload_n C.1 C.2.1 dX1_takeAway_34 rfl (lv_at hl 0 rfl) ?_
      refine lv_aload_n C.1 C.2.1 dX1_takeAway_35 rfl (lv_at hl 0 rfl) ?_
      refine zr_get C w 5 zm_w_X1 (zw_g5 G _) rfl 7 (by decide) zm_f_X1_60 rfl dX1_takeAway_36 ?_
      refine lv_iload_n C.1 C.2.1 dX1_takeAway_39 rfl (lv_at hl 1 rfl) ?_
      refine zr_iald C w 6 (zw_g6 G _) dX1_takeAway_40 h (fun h => ?_)
      obtain ⟨v2, S3, hc, h⟩ := zc_b2_x h
      refine zr_callVi C w 5 (zw_g5 G _) rfl (As := [.int (S.1 6 (Int32.toNatClampNeg x1))]) (zm_X1_left l G _ _ _ _ hc) zm_c_X1_left zm_l_X1_110 zm_i_X1_left zm_e_X1_left zm_0_X1 zm_d_X1_left ⟨rfl, rfl⟩ ⟨Nat.le_of_ble_eq_true rfl, Nat.le_of_ble_eq_true rfl⟩ hl.1 rfl rfl (Nat.le_of_ble_eq_true rfl) dX1_takeAway_41 ⟨Nat.le_of_ble_eq_true rfl, Nat.le_of_ble_eq_true rfl⟩ (fun H locs w => ?_)
      clear hc
      refine zr_iast C w 6 (zw_g6 G _) (zw_s6 G _) dX1_takeAway_44 h (fun S4 H locs w h => ?_)
      obtain ⟨v5, e_, h⟩ := zc_lt_x h
      refine lv_iinc (v := v5) (lv' := [(1, .int v5), (0, .ref (zg_q G 5)), (2, .int f2)]) C.1 C.2.1 dX1_takeAway_45 hl (k := 1) rfl (by subst e_; rfl) (by decide) rfl (fun ls hl => ?_)
      clear e_
      refine lv_goto (tgt := 20) C.1 C.2.1 dX1_takeAway_48 (by decide) ?_
      exact ih _ _ h _ _ _ w (lv_sub hl [1, 0, 2] rfl)
set_option maxHeartbeats 4000000 in
set_option maxRecDepth 100000 in
theorem zk_X1_takeAway_4 {p : Program} {l : Launch} {e : Env} {s : State} {m : MethodId} {args : Array Value} {below : List Frame} {meth : Method} {c : Code} {G : zg_T} {Q : State → Prop} (C : zx_C p s m args meth c G RX1 cX1_takeAway 3) (oS : zs_T) (kont : ∀ (H : Heap) (locs : List Loc) (ls : Array Slot), zg_W G oS s H locs → lv_has ls 3 [] → W p l e zr_m_X1_takeAway s m args below meth c H locs 0 0 Q (F0 m 57 ls [])) : ∀ (n : Nat) (S : zs_T) (x1 : Int32) (x2 : Int32), zl_3 (zb_X1_takeAway_4) n S x1 x2 = some oS → ∀ (H : Heap) (locs : List Loc) (ls : Array Slot), zg_W G S s H locs → lv_has ls 3 [(0, .ref (zg_q G 5)), (1, .int x1), (2, .int x2)] → W p l e zr_m_X1_takeAway s m args below meth c H locs 0 0 Q (F0 m 4 ls []) := by
  intro n
  induction n with
  | zero => intro S x1 x2 h; cases h
  | succ n ih =>
    intro S x1 x2 h H locs ls w hl
    replace h : zb_X1_takeAway_4 (zl_3 (zb_X1_takeAway_4) n) S x1 x2 = some oS := h
    generalize zl_3 (zb_X1_takeAway_4) n = rec at ih h
    unfold zb_X1_takeAway_4 at h
    refine lv_iload_n C.1 C.2.1 dX1_takeAway_4 rfl (lv_at hl 2 rfl) ?_
    refine zr_getsN C w 7 (by decide) zm_n_X1_103 dX1_takeAway_5 ?_
    refine zr_tlen C w 7 (by decide) (v := 4) (by decide) dX1_takeAway_8 ?_
    refine zr_ic_ge (tgt := 57) C dX1_takeAway_9 (by decide) h (fun h => ?_) (fun h => ?_)
    · cases h
      exact kont _ _ _ w (lv_sub hl [] rfl)
    · refine lv_aload_n C.1 C.2.1 dX1_takeAway_12 rfl (lv_at hl 0 rfl) ?_
      refine zr_get C w 5 zm_w_X1 (zw_g5 G _) rfl 2 (by decide) zm_f_X1_28 rfl dX1_takeAway_13 ?_
      refine lv_iload_n C.1 C.2.1 dX1_takeAway_16 rfl (lv_at hl 2 rfl) ?_
      obtain ⟨S1, hc, h⟩ := zc_b1_x h
      refine zr_callVv C w 15 (zw_g15 G _) rfl (As := [.int x2]) (zm_X2_shape_15 l G _ _ _ hc) zm_c_X2_shape zm_l_X1_106 zm_i_X2_shape zm_e_X2_shape zm_0_X2 zm_d_X2_shape ⟨rfl, rfl⟩ ⟨Nat.le_of_ble_eq_true rfl, Nat.le_of_ble_eq_true rfl⟩ hl.1 rfl rfl (Nat.le_of_ble_eq_true rfl) dX1_takeAway_17 ⟨Nat.le_of_ble_eq_true rfl, Nat.le_of_ble_eq_true rfl⟩ (fun H locs w => ?_)
      clear hc
      obtain ⟨S6, v7, hc, h⟩ := zc_b2_x h
      refine zk_X1_takeAway_20 C x2 S6 v7 (fun H locs ls w hl => ?_) _ _ _ hc _ _ _ w (lv_sub hl [0, 1, 2] rfl)
      clear hc
      obtain ⟨v8, e_, h⟩ := zc_lt_x h
      refine lv_iinc (v := v8) (lv' := [(2, .int v8), (0, .ref (zg_q G 5)), (1, .int v7)]) C.1 C.2.1 dX1_takeAway_51 hl (k := 2) rfl (by subst e_; rfl) (by decide) rfl (fun ls hl => ?_)
      clear e_
      refine lv_goto (tgt := 4) C.1 C.2.1 dX1_takeAway_54 (by decide) ?_
      exact ih _ _ _ h _ _ _ w (lv_sub hl [1, 2, 0] rfl)
set_option maxHeartbeats 4000000 in
set_option maxRecDepth 100000 in
theorem zm_X1_takeAway (l : Launch) (G : zg_T) (S : zs_T) (S1 : zs_T) (h : zf_X1_takeAway S = some S1) : Met l yX1_takeAway (Cond.code yX1_takeAway cX1_takeAway 3 none :: zt_G) zr_m_X1_takeAway (va_Pc [.ref (zg_q G 5)] (zg_P G S)) (zg_Q G none S1) 0 0 (zg_A G) := by
  refine zx_met (by decide +kernel) (Nat.le_of_ble_eq_true rfl) (lv := [(0, .ref (zg_q G 5))]) rfl ?_
  intro p e s m below meth c C hr w ls hl
  replace C : zx_C p s m _ meth c G RX1 cX1_takeAway 3 := C
  unfold zf_X1_takeAway at h
  refine lv_iconst (v := 0) C.1 C.2.1 dX1_takeAway_0 (by decide) ?_
  refine lv_istore_n (lv' := [(1, .int (0 : Int32)), (0, .ref (zg_q G 5))]) C.1 C.2.1 dX1_takeAway_1 rfl hl (by decide) rfl (fun ls hl => ?_)
  refine lv_iconst (v := 0) C.1 C.2.1 dX1_takeAway_2 (by decide) ?_
  refine lv_istore_n (lv' := [(2, .int (0 : Int32)), (1, .int (0 : Int32)), (0, .ref (zg_q G 5))]) C.1 C.2.1 dX1_takeAway_3 rfl hl (by decide) rfl (fun ls hl => ?_)
  obtain ⟨S9, hc, h⟩ := zc_b1_x h
  refine zk_X1_takeAway_4 C S9 (fun H locs ls w hl => ?_) _ _ _ _ hc _ _ _ w (lv_sub hl [2, 1, 0] rfl)
  clear hc
  exact zr_retv C w hr dX1_takeAway_57 (Option.some.inj h)
set_option maxHeartbeats 4000000 in
set_option maxRecDepth 100000 in
theorem zm_X5_from (l : Launch) (G : zg_T) (S : zs_T) (a1 : Int32) (r : Int32) (h : zf_X5_from a1 = r) : Met l yX5_from (Cond.code yX5_from cX5_from 1 (some .int) :: zt_G) zr_m_X5_from (va_Pc [.int a1] (zg_P G S)) (zg_Q G (some (.int r)) S) 0 0 (zg_A G) := by
  refine zx_met (by decide +kernel) (Nat.le_of_ble_eq_true rfl) (lv := [(0, .int a1)]) rfl ?_
  intro p e s m below meth c C hr w ls hl
  replace C : zx_C p s m _ meth c G RX5 cX5_from 1 := C
  unfold zf_X5_from at h
  refine lv_bipush (v := 120) C.1 C.2.1 dX5_from_0 (by decide) ?_
  refine lv_bipush (v := 40) C.1 C.2.1 dX5_from_2 (by decide) ?_
  refine lv_iload_n C.1 C.2.1 dX5_from_4 rfl (lv_at hl 0 rfl) ?_
  refine lv_imul C.1 C.2.1 dX5_from_5 ?_
  refine lv_iadd C.1 C.2.1 dX5_from_6 ?_
  exact zr_reti C w hr dX5_from_7 h rfl
set_option maxHeartbeats 4000000 in
set_option maxRecDepth 100000 in
theorem zk_X8_lower_48 {p : Program} {l : Launch} {e : Env} {s : State} {m : MethodId} {args : Array Value} {below : List Frame} {meth : Method} {c : Code} {G : zg_T} {Q : State → Prop} (C : zx_C p s m args meth c G RX8 cX8_lower 7) (f2 : Int32) (f5 : Int32) (oS : zs_T) (kont : ∀ (H : Heap) (locs : List Loc) (ls : Array Slot), zg_W G oS s H locs → lv_has ls 7 [(5, .int f5)] → W p l e zr_m_X8_lower s m args below meth c H locs 0 0 Q (F0 m 77 ls [])) : ∀ (n : Nat) (S : zs_T) (x6 : Int32), zl_2 (zb_X8_lower_48 f2 f5) n S x6 = some oS → ∀ (H : Heap) (locs : List Loc) (ls : Array Slot), zg_W G S s H locs → lv_has ls 7 [(0, .ref (zg_q G 22)), (1, .ref (zg_q G 6)), (2, .int f2), (5, .int f5), (6, .int x6)] → W p l e zr_m_X8_lower s m args below meth c H locs 0 0 Q (F0 m 48 ls []) := by
  intro n
  induction n with
  | zero => intro S x6 h; cases h
  | succ n ih =>
    intro S x6 h H locs ls w hl
    replace h : zb_X8_lower_48 f2 f5 (zl_2 (zb_X8_lower_48 f2 f5) n) S x6 = some oS := h
    generalize zl_2 (zb_X8_lower_48 f2 f5) n = rec at ih h
    unfold zb_X8_lower_48 at h
    refine lv_iload C.1 C.2.1 dX8_lower_48 (lv_at hl 4 rfl) ?_
    refine lv_bipush (v := 40) C.1 C.2.1 dX8_lower_50 (by decide) ?_
    refine zr_ic_ge (tgt := 77) C dX8_lower_52 (by decide) h (fun h => ?_) (fun h => ?_)
    · cases h
      exact kont _ _ _ w (lv_sub hl [3] rfl)
    · refine lv_aload_n C.1 C.2.1 dX8_lower_55 rfl (lv_at hl 0 rfl) ?_
      refine zr_get C w 22 zm_w_X8 (zw_g22 G _) rfl 0 (by decide) zm_f_X8_9 rfl dX8_lower_56 ?_
      refine lv_iload C.1 C.2.1 dX8_lower_59 (lv_at hl 4 rfl) ?_
      refine lv_aload_n C.1 C.2.1 dX8_lower_61 rfl (lv_at hl 1 rfl) ?_
      refine lv_iload_n C.1 C.2.1 dX8_lower_62 rfl (lv_at hl 2 rfl) ?_
      refine lv_iload C.1 C.2.1 dX8_lower_63 (lv_at hl 4 rfl) ?_
      refine lv_iadd C.1 C.2.1 dX8_lower_65 ?_
      refine zr_iald C w 6 (zw_g6 G _) dX8_lower_66 h (fun h => ?_)
      refine lv_iload C.1 C.2.1 dX8_lower_67 (lv_at hl 3 rfl) ?_
      refine lv_ishr C.1 C.2.1 dX8_lower_69 ?_
      refine zr_iast C w 23 (zw_g23 G _) (zw_s23 G _) dX8_lower_70 h (fun S3 H locs w h => ?_)
      obtain ⟨v4, e_, h⟩ := zc_lt_x h
      refine lv_iinc (v := v4) (lv' := [(6, .int v4), (0, .ref (zg_q G 22)), (1, .ref (zg_q G 6)), (2, .int f2), (5, .int f5)]) C.1 C.2.1 dX8_lower_71 hl (k := 4) rfl (by subst e_; rfl) (by decide) rfl (fun ls hl => ?_)
      clear e_
      refine lv_goto (tgt := 48) C.1 C.2.1 dX8_lower_74 (by decide) ?_
      exact ih _ _ h _ _ _ w (lv_sub hl [1, 2, 3, 4, 0] rfl)
set_option maxHeartbeats 4000000 in
set_option maxRecDepth 100000 in
theorem zq_X8_lower_43 {p : Program} {l : Launch} {e : Env} {s : State} {m : MethodId} {args : Array Value} {below : List Frame} {meth : Method} {c : Code} {G : zg_T} (hr : meth.sig.returnType = (some .int)) (C : zx_C p s m args meth c G RX8 cX8_lower 7) (r : Int32) (S1 : zs_T) (S : zs_T) (y2 : Int32) (z0 : Int32) (h : zj_X8_lower_43 S y2 z0 = some (r, S1)) (H : Heap) (locs : List Loc) (ls : Array Slot) (w : zg_W G S s H locs) (hl : lv_has ls 7 [(0, .ref (zg_q G 22)), (1, .ref (zg_q G 6)), (2, .int y2)]) : W p l e zr_m_X8_lower s m args below meth c H locs 0 0 (MQ below (zg_Q G (some (.int r)) S1) args s 0 0 (zg_A G)) (F0 m 43 ls [.int z0]) := by
  unfold zj_X8_lower_43 at h
  refine lv_istore (lv' := [(5, .int z0), (0, .ref (zg_q G 22)), (1, .ref (zg_q G 6)), (2, .int y2)]) C.1 C.2.1 dX8_lower_43 hl (by decide) rfl (fun ls hl => ?_)
  refine lv_iconst (v := 0) C.1 C.2.1 dX8_lower_45 (by decide) ?_
  refine lv_istore (lv' := [(6, .int (0 : Int32)), (5, .int z0), (0, .ref (zg_q G 22)), (1, .ref (zg_q G 6)), (2, .int y2)]) C.1 C.2.1 dX8_lower_46 hl (by decide) rfl (fun ls hl => ?_)
  obtain ⟨S5, hc, h⟩ := zc_b1_x h
  refine zk_X8_lower_48 C y2 z0 S5 (fun H locs ls w hl => ?_) _ _ _ hc _ _ _ w (lv_sub hl [2, 3, 4, 1, 0] rfl)
  clear hc
  refine lv_iload C.1 C.2.1 dX8_lower_77 (lv_at hl 0 rfl) ?_
  exact zr_reti C w hr dX8_lower_79 (congrArg Prod.fst (Option.some.inj h)) (congrArg Prod.snd (Option.some.inj h))
set_option maxHeartbeats 4000000 in
set_option maxRecDepth 100000 in
theorem zq_X8_lower_25 {p : Program} {l : Launch} {e : Env} {s : State} {m : MethodId} {args : Array Value} {below : List Frame} {meth : Method} {c : Code} {G : zg_T} (hr : meth.sig.returnType = (some .int)) (C : zx_C p s m args meth c G RX8 cX8_lower 7) (r : Int32) (S1 : zs_T) (S : zs_T) (y2 : Int32) (z0 : Int32) (h : zj_X8_lower_25 S y2 z0 = some (r, S1)) (H : Heap) (locs : List Loc) (ls : Array Slot) (w : zg_W G S s H locs) (hl : lv_has ls 7 [(0, .ref (zg_q G 22)), (1, .ref (zg_q G 6)), (2, .int y2)]) : W p l e zr_m_X8_lower s m args below meth c H locs 0 0 (MQ below (zg_Q G (some (.int r)) S1) args s 0 0 (zg_A G)) (F0 m 25 ls [.int z0]) := by
  unfold zj_X8_lower_25 at h
  refine lv_istore (lv' := [(4, .int z0), (0, .ref (zg_q G 22)), (1, .ref (zg_q G 6)), (2, .int y2)]) C.1 C.2.1 dX8_lower_25 hl (by decide) rfl (fun ls hl => ?_)
  refine lv_iload C.1 C.2.1 dX8_lower_27 (lv_at hl 0 rfl) ?_
  refine lv_bipush (v := 6) C.1 C.2.1 dX8_lower_29 (by decide) ?_
  refine zr_ic_le (tgt := 38) C dX8_lower_31 (by decide) h (fun h => ?_) (fun h => ?_)
  · refine lv_bipush (v := 6) C.1 C.2.1 dX8_lower_38 (by decide) ?_
    refine lv_iload C.1 C.2.1 dX8_lower_40 (lv_at hl 0 rfl) ?_
    refine lv_isub C.1 C.2.1 dX8_lower_42 ?_
    exact zq_X8_lower_43 hr C _ _ _ _ _ h _ _ _ w (lv_sub hl [1, 2, 3] rfl)
  · refine lv_iconst (v := 0) C.1 C.2.1 dX8_lower_34 (by decide) ?_
    refine lv_goto (tgt := 43) C.1 C.2.1 dX8_lower_35 (by decide) ?_
    exact zq_X8_lower_43 hr C _ _ _ _ _ h _ _ _ w (lv_sub hl [1, 2, 3] rfl)
set_option maxHeartbeats 4000000 in
set_option maxRecDepth 100000 in
theorem zm_X8_lower (l : Launch) (G : zg_T) (S : zs_T) (a1 : Int32) (r : Int32) (S1 : zs_T) (h : zf_X8_lower S a1 = some (r, S1)) : Met l yX8_lower (Cond.code yX8_lower cX8_lower 7 (some .int) :: zt_G) zr_m_X8_lower (va_Pc [.ref (zg_q G 22), .ref (zg_q G 6), .int a1] (zg_P G S)) (zg_Q G (some (.int r)) S1) 0 0 (zg_A G) := by
  refine zx_met (by decide +kernel) (Nat.le_of_ble_eq_true rfl) (lv := [(0, .ref (zg_q G 22)), (1, .ref (zg_q G 6)), (2, .int a1)]) rfl ?_
  intro p e s m below meth c C hr w ls hl
  replace C : zx_C p s m _ meth c G RX8 cX8_lower 7 := C
  unfold zf_X8_lower at h
  refine lv_aload_n C.1 C.2.1 dX8_lower_0 rfl (lv_at hl 1 rfl) ?_
  refine lv_iload_n C.1 C.2.1 dX8_lower_1 rfl (lv_at hl 2 rfl) ?_
  refine lv_iconst (v := 1) C.1 C.2.1 dX8_lower_2 (by decide) ?_
  refine lv_bipush (v := 40) C.1 C.2.1 dX8_lower_3 (by decide) ?_
  obtain ⟨v1, hc, h⟩ := zc_b1_x h
  refine zr_callSi C w (As := [.ref (zg_q G 6), .int a1, .int (1 : Int32), .int (40 : Int32)]) (zm_X4_greatestSize_6 l G _ _ _ _ _ hc) zm_c_X4_greatestSize zm_l_X8_45 zm_s_X4_greatestSize zm_0_X4 zm_d_X4_greatestSize ⟨rfl, rfl⟩ ⟨Nat.le_of_ble_eq_true rfl, Nat.le_of_ble_eq_true rfl⟩ hl.1 rfl rfl (Nat.le_of_ble_eq_true rfl) dX8_lower_5 ⟨Nat.le_of_ble_eq_true rfl, Nat.le_of_ble_eq_true rfl⟩ (fun H locs w => ?_)
  clear hc
  refine lv_istore_n (lv' := [(3, .int v1), (0, .ref (zg_q G 22)), (1, .ref (zg_q G 6)), (2, .int a1)]) C.1 C.2.1 dX8_lower_8 rfl hl (by decide) rfl (fun ls hl => ?_)
  refine lv_iload_n C.1 C.2.1 dX8_lower_9 rfl (lv_at hl 0 rfl) ?_
  refine zr_if_ne (tgt := 18) C dX8_lower_10 (by decide) h (fun h => ?_) (fun h => ?_)
  · refine lv_iload_n C.1 C.2.1 dX8_lower_18 rfl (lv_at hl 0 rfl) ?_
    refine lv_bipush (v := 16) C.1 C.2.1 dX8_lower_19 (by decide) ?_
    refine lv_ishl C.1 C.2.1 dX8_lower_21 ?_
    obtain ⟨v2, hc, h⟩ := zc_b1_x h
    refine zr_callSi C w (As := [.int (v1 <<< ((16 : Int32) &&& 31))]) (zm_X4_norm l G _ _ _ hc) zm_c_X4_norm zm_l_X8_51 zm_s_X4_norm zm_0_X4 zm_d_X4_norm ⟨rfl, rfl⟩ ⟨Nat.le_of_ble_eq_true rfl, Nat.le_of_ble_eq_true rfl⟩ hl.1 rfl rfl (Nat.le_of_ble_eq_true rfl) dX8_lower_22 ⟨Nat.le_of_ble_eq_true rfl, Nat.le_of_ble_eq_true rfl⟩ (fun H locs w => ?_)
    clear hc
    exact zq_X8_lower_25 hr C _ _ _ _ _ h _ _ _ w (lv_sub hl [1, 2, 3] rfl)
  · refine lv_bipush (v := 6) C.1 C.2.1 dX8_lower_13 (by decide) ?_
    refine lv_goto (tgt := 25) C.1 C.2.1 dX8_lower_15 (by decide) ?_
    exact zq_X8_lower_25 hr C _ _ _ _ _ h _ _ _ w (lv_sub hl [1, 2, 3] rfl)
set_option maxHeartbeats 4000000 in
set_option maxRecDepth 100000 in
theorem zk_X8_likeness_5 {p : Program} {l : Launch} {e : Env} {s : State} {m : MethodId} {args : Array Value} {below : List Frame} {meth : Method} {c : Code} {G : zg_T} {Q : State → Prop} (C : zx_C p s m args meth c G RX8 cX8_likeness 5) (S : zs_T) (f2 : Int32) (o3 : Int32) (kont : ∀ (H : Heap) (locs : List Loc) (ls : Array Slot), zg_W G S s H locs → lv_has ls 5 [(3, .int o3)] → W p l e zr_m_X8_likeness s m args below meth c H locs 0 0 Q (F0 m 35 ls [])) : ∀ (n : Nat) (x3 : Int32) (x4 : Int32), zl_2 (zb_X8_likeness_5 S f2) n x3 x4 = some o3 → ∀ (H : Heap) (locs : List Loc) (ls : Array Slot), zg_W G S s H locs → lv_has ls 5 [(0, .ref (zg_q G 22)), (1, .ref (zg_q G 20)), (2, .int f2), (3, .int x3), (4, .int x4)] → W p l e zr_m_X8_likeness s m args below meth c H locs 0 0 Q (F0 m 5 ls []) := by
  intro n
  induction n with
  | zero => intro x3 x4 h; cases h
  | succ n ih =>
    intro x3 x4 h H locs ls w hl
    replace h : zb_X8_likeness_5 S f2 (zl_2 (zb_X8_likeness_5 S f2) n) x3 x4 = some o3 := h
    generalize zl_2 (zb_X8_likeness_5 S f2) n = rec at ih h
    unfold zb_X8_likeness_5 at h
    refine lv_iload C.1 C.2.1 dX8_likeness_5 (lv_at hl 4 rfl) ?_
    refine lv_bipush (v := 40) C.1 C.2.1 dX8_likeness_7 (by decide) ?_
    refine zr_ic_ge (tgt := 35) C dX8_likeness_9 (by decide) h (fun h => ?_) (fun h => ?_)
    · cases h
      exact kont _ _ _ w (lv_sub hl [3] rfl)
    · refine lv_iload_n C.1 C.2.1 dX8_likeness_12 rfl (lv_at hl 3 rfl) ?_
      refine lv_aload_n C.1 C.2.1 dX8_likeness_13 rfl (lv_at hl 0 rfl) ?_
      refine zr_get C w 22 zm_w_X8 (zw_g22 G _) rfl 0 (by decide) zm_f_X8_9 rfl dX8_likeness_14 ?_
      refine lv_iload C.1 C.2.1 dX8_likeness_17 (lv_at hl 4 rfl) ?_
      refine zr_iald C w 23 (zw_g23 G _) dX8_likeness_19 h (fun h => ?_)
      refine lv_aload_n C.1 C.2.1 dX8_likeness_20 rfl (lv_at hl 1 rfl) ?_
      refine lv_iload_n C.1 C.2.1 dX8_likeness_21 rfl (lv_at hl 2 rfl) ?_
      refine lv_iload C.1 C.2.1 dX8_likeness_22 (lv_at hl 4 rfl) ?_
      refine lv_iadd C.1 C.2.1 dX8_likeness_24 ?_
      refine zr_iald C w 20 (zw_g20 G _) dX8_likeness_25 h (fun h => ?_)
      refine lv_imul C.1 C.2.1 dX8_likeness_26 ?_
      refine lv_iadd C.1 C.2.1 dX8_likeness_27 ?_
      refine zr_lti h (fun v1 h => ?_)
      refine lv_istore_n (lv' := [(3, .int v1), (0, .ref (zg_q G 22)), (1, .ref (zg_q G 20)), (2, .int f2), (4, .int x4)]) C.1 C.2.1 dX8_likeness_28 rfl hl (by decide) rfl (fun ls hl => ?_)
      obtain ⟨v2, e_, h⟩ := zc_lt_x h
      refine lv_iinc (v := v2) (lv' := [(4, .int v2), (3, .int v1), (0, .ref (zg_q G 22)), (1, .ref (zg_q G 20)), (2, .int f2)]) C.1 C.2.1 dX8_likeness_29 hl (k := 4) rfl (by subst e_; rfl) (by decide) rfl (fun ls hl => ?_)
      clear e_
      refine lv_goto (tgt := 5) C.1 C.2.1 dX8_likeness_32 (by decide) ?_
      exact ih _ _ h _ _ _ w (lv_sub hl [2, 3, 4, 1, 0] rfl)
set_option maxHeartbeats 4000000 in
set_option maxRecDepth 100000 in
theorem zm_X8_likeness (l : Launch) (G : zg_T) (S : zs_T) (a1 : Int32) (r : Int32) (h : zf_X8_likeness S a1 = some r) : Met l yX8_likeness (Cond.code yX8_likeness cX8_likeness 5 (some .int) :: zt_G) zr_m_X8_likeness (va_Pc [.ref (zg_q G 22), .ref (zg_q G 20), .int a1] (zg_P G S)) (zg_Q G (some (.int r)) S) 0 0 (zg_A G) := by
  refine zx_met (by decide +kernel) (Nat.le_of_ble_eq_true rfl) (lv := [(0, .ref (zg_q G 22)), (1, .ref (zg_q G 20)), (2, .int a1)]) rfl ?_
  intro p e s m below meth c C hr w ls hl
  replace C : zx_C p s m _ meth c G RX8 cX8_likeness 5 := C
  unfold zf_X8_likeness at h
  refine lv_iconst (v := 0) C.1 C.2.1 dX8_likeness_0 (by decide) ?_
  refine lv_istore_n (lv' := [(3, .int (0 : Int32)), (0, .ref (zg_q G 22)), (1, .ref (zg_q G 20)), (2, .int a1)]) C.1 C.2.1 dX8_likeness_1 rfl hl (by decide) rfl (fun ls hl => ?_)
  refine lv_iconst (v := 0) C.1 C.2.1 dX8_likeness_2 (by decide) ?_
  refine lv_istore (lv' := [(4, .int (0 : Int32)), (3, .int (0 : Int32)), (0, .ref (zg_q G 22)), (1, .ref (zg_q G 20)), (2, .int a1)]) C.1 C.2.1 dX8_likeness_3 hl (by decide) rfl (fun ls hl => ?_)
  obtain ⟨v3, hc, h⟩ := zc_b1_x h
  refine zk_X8_likeness_5 C _ a1 v3 (fun H locs ls w hl => ?_) _ _ _ hc _ _ _ w (lv_sub hl [2, 3, 4, 1, 0] rfl)
  clear hc
  refine lv_iload_n C.1 C.2.1 dX8_likeness_35 rfl (lv_at hl 0 rfl) ?_
  exact zr_reti C w hr dX8_likeness_36 (Option.some.inj h) rfl
set_option maxHeartbeats 4000000 in
set_option maxRecDepth 100000 in
theorem zk_X8_power_4 {p : Program} {l : Launch} {e : Env} {s : State} {m : MethodId} {args : Array Value} {below : List Frame} {meth : Method} {c : Code} {G : zg_T} {Q : State → Prop} (C : zx_C p s m args meth c G RX8 cX8_power 5) (S : zs_T) (f1 : Int32) (o2 : Int32) (kont : ∀ (H : Heap) (locs : List Loc) (ls : Array Slot), zg_W G S s H locs → lv_has ls 5 [(2, .int o2)] → W p l e zr_m_X8_power s m args below meth c H locs 0 0 Q (F0 m 33 ls [])) : ∀ (n : Nat) (x2 : Int32) (x3 : Int32), zl_2 (zb_X8_power_4 S f1) n x2 x3 = some o2 → ∀ (H : Heap) (locs : List Loc) (ls : Array Slot), zg_W G S s H locs → lv_has ls 5 [(0, .ref (zg_q G 20)), (1, .int f1), (2, .int x2), (3, .int x3)] → W p l e zr_m_X8_power s m args below meth c H locs 0 0 Q (F0 m 4 ls []) := by
  intro n
  induction n with
  | zero => intro x2 x3 h; cases h
  | succ n ih =>
    intro x2 x3 h H locs ls w hl
    replace h : zb_X8_power_4 S f1 (zl_2 (zb_X8_power_4 S f1) n) x2 x3 = some o2 := h
    generalize zl_2 (zb_X8_power_4 S f1) n = rec at ih h
    unfold zb_X8_power_4 at h
    refine lv_iload_n C.1 C.2.1 dX8_power_4 rfl (lv_at hl 3 rfl) ?_
    refine lv_bipush (v := 40) C.1 C.2.1 dX8_power_5 (by decide) ?_
    refine zr_ic_ge (tgt := 33) C dX8_power_7 (by decide) h (fun h => ?_) (fun h => ?_)
    · cases h
      exact kont _ _ _ w (lv_sub hl [2] rfl)
    · refine lv_aload_n C.1 C.2.1 dX8_power_10 rfl (lv_at hl 0 rfl) ?_
      refine lv_iload_n C.1 C.2.1 dX8_power_11 rfl (lv_at hl 1 rfl) ?_
      refine lv_iload_n C.1 C.2.1 dX8_power_12 rfl (lv_at hl 3 rfl) ?_
      refine lv_iadd C.1 C.2.1 dX8_power_13 ?_
      refine zr_iald C w 20 (zw_g20 G _) dX8_power_14 h (fun h => ?_)
      refine lv_iconst (v := 3) C.1 C.2.1 dX8_power_15 (by decide) ?_
      refine lv_ishr C.1 C.2.1 dX8_power_16 ?_
      refine zr_lti h (fun v1 h => ?_)
      refine lv_istore (lv' := [(4, .int v1), (0, .ref (zg_q G 20)), (1, .int f1), (2, .int x2), (3, .int x3)]) C.1 C.2.1 dX8_power_17 hl (by decide) rfl (fun ls hl => ?_)
      refine lv_iload_n C.1 C.2.1 dX8_power_19 rfl (lv_at hl 3 rfl) ?_
      refine lv_iload C.1 C.2.1 dX8_power_20 (lv_at hl 0 rfl) ?_
      refine lv_iload C.1 C.2.1 dX8_power_22 (lv_at hl 0 rfl) ?_
      refine lv_imul C.1 C.2.1 dX8_power_24 ?_
      refine lv_iadd C.1 C.2.1 dX8_power_25 ?_
      refine zr_lti h (fun v2 h => ?_)
      refine lv_istore_n (lv' := [(2, .int v2), (4, .int v1), (0, .ref (zg_q G 20)), (1, .int f1), (3, .int x3)]) C.1 C.2.1 dX8_power_26 rfl hl (by decide) rfl (fun ls hl => ?_)
      obtain ⟨v3, e_, h⟩ := zc_lt_x h
      refine lv_iinc (v := v3) (lv' := [(3, .int v3), (2, .int v2), (4, .int v1), (0, .ref (zg_q G 20)), (1, .int f1)]) C.1 C.2.1 dX8_power_27 hl (k := 4) rfl (by subst e_; rfl) (by decide) rfl (fun ls hl => ?_)
      clear e_
      refine lv_goto (tgt := 4) C.1 C.2.1 dX8_power_30 (by decide) ?_
      exact ih _ _ h _ _ _ w (lv_sub hl [3, 4, 1, 0] rfl)
set_option maxHeartbeats 4000000 in
set_option maxRecDepth 100000 in
theorem zm_X8_power (l : Launch) (G : zg_T) (S : zs_T) (a1 : Int32) (r : Int32) (h : zf_X8_power S a1 = some r) : Met l yX8_power (Cond.code yX8_power cX8_power 5 (some .int) :: zt_G) zr_m_X8_power (va_Pc [.ref (zg_q G 20), .int a1] (zg_P G S)) (zg_Q G (some (.int r)) S) 0 0 (zg_A G) := by
  refine zx_met (by decide +kernel) (Nat.le_of_ble_eq_true rfl) (lv := [(0, .ref (zg_q G 20)), (1, .int a1)]) rfl ?_
  intro p e s m below meth c C hr w ls hl
  replace C : zx_C p s m _ meth c G RX8 cX8_power 5 := C
  unfold zf_X8_power at h
  refine lv_iconst (v := 0) C.1 C.2.1 dX8_power_0 (by decide) ?_
  refine lv_istore_n (lv' := [(2, .int (0 : Int32)), (0, .ref (zg_q G 20)), (1, .int a1)]) C.1 C.2.1 dX8_power_1 rfl hl (by decide) rfl (fun ls hl => ?_)
  refine lv_iconst (v := 0) C.1 C.2.1 dX8_power_2 (by decide) ?_
  refine lv_istore_n (lv' := [(3, .int (0 : Int32)), (2, .int (0 : Int32)), (0, .ref (zg_q G 20)), (1, .int a1)]) C.1 C.2.1 dX8_power_3 rfl hl (by decide) rfl (fun ls hl => ?_)
  obtain ⟨v4, hc, h⟩ := zc_b1_x h
  refine zk_X8_power_4 C _ a1 v4 (fun H locs ls w hl => ?_) _ _ _ hc _ _ _ w (lv_sub hl [2, 3, 1, 0] rfl)
  clear hc
  refine lv_iconst (v := 2) C.1 C.2.1 dX8_power_33 (by decide) ?_
  refine lv_iload_n C.1 C.2.1 dX8_power_34 rfl (lv_at hl 0 rfl) ?_
  refine lv_imul C.1 C.2.1 dX8_power_35 ?_
  exact zr_reti C w hr dX8_power_36 (Option.some.inj h) rfl
set_option maxHeartbeats 4000000 in
set_option maxRecDepth 100000 in
theorem zk_X8_gainOf_36 {p : Program} {l : Launch} {e : Env} {s : State} {m : MethodId} {args : Array Value} {below : List Frame} {meth : Method} {c : Code} {G : zg_T} (hr : meth.sig.returnType = (some .int)) (r : Int32) (C : zx_C p s m args meth c G RX8 cX8_gainOf 6) (S : zs_T) (f3 : Int32) (f4 : Int32) (o : ((Unit) ⊕ Int32)) (hor : ∀ r_, o = Sum.inr r_ → r_ = r) (kont : ∀ (_ : Unit), o = Sum.inl () → ∀ (H : Heap) (locs : List Loc) (ls : Array Slot), zg_W G S s H locs → lv_has ls 6 [] → W p l e zr_m_X8_gainOf s m args below meth c H locs 0 0 (MQ below (zg_Q G (some (.int r)) S) args s 0 0 (zg_A G)) (F0 m 69 ls [])) : ∀ (n : Nat) (x5 : Int32), zl_1 (zb_X8_gainOf_36 f3 f4) n x5 = some o → ∀ (H : Heap) (locs : List Loc) (ls : Array Slot), zg_W G S s H locs → lv_has ls 6 [(3, .int f3), (4, .int f4), (5, .int x5)] → W p l e zr_m_X8_gainOf s m args below meth c H locs 0 0 (MQ below (zg_Q G (some (.int r)) S) args s 0 0 (zg_A G)) (F0 m 36 ls []) := by
  intro n
  induction n with
  | zero => intro x5 h; cases h
  | succ n ih =>
    intro x5 h H locs ls w hl
    replace h : zb_X8_gainOf_36 f3 f4 (zl_1 (zb_X8_gainOf_36 f3 f4) n) x5 = some o := h
    generalize zl_1 (zb_X8_gainOf_36 f3 f4) n = rec at ih h
    unfold zb_X8_gainOf_36 at h
    refine lv_iload C.1 C.2.1 dX8_gainOf_36 (lv_at hl 2 rfl) ?_
    refine zr_gets C w 9 (by decide) zm_f_X8_54 dX8_gainOf_38 ?_
    refine zr_tlen C w 9 (by decide) (v := 3) (by decide) dX8_gainOf_41 ?_
    refine zr_ic_ge (tgt := 69) C dX8_gainOf_42 (by decide) h (fun h => ?_) (fun h => ?_)
    · exact kont () (Option.some.inj h).symm _ _ _ w (lv_sub hl [] rfl)
    · refine lv_iload_n C.1 C.2.1 dX8_gainOf_45 rfl (lv_at hl 0 rfl) ?_
      refine lv_iload C.1 C.2.1 dX8_gainOf_46 (lv_at hl 1 rfl) ?_
      refine zr_gets C w 9 (by decide) zm_f_X8_54 dX8_gainOf_48 ?_
      refine lv_iload C.1 C.2.1 dX8_gainOf_51 (lv_at hl 2 rfl) ?_
      refine zr_tab C w 9 (by decide) (n := 3) rfl (g := zt_v9) rfl dX8_gainOf_53 h (fun h => ?_)
      refine zr_callSi C w (As := [.int f4, .int (zt_v9 (Int32.toNatClampNeg x5))]) (zm_X4_floored l G _ _ _ _ rfl) zm_c_X4_floored zm_l_X8_57 zm_s_X4_floored zm_0_X4 zm_d_X4_floored ⟨rfl, rfl⟩ ⟨Nat.le_of_ble_eq_true rfl, Nat.le_of_ble_eq_true rfl⟩ hl.1 rfl rfl (Nat.le_of_ble_eq_true rfl) dX8_gainOf_54 ⟨Nat.le_of_ble_eq_true rfl, Nat.le_of_ble_eq_true rfl⟩ (fun H locs w => ?_)
      refine zr_lti h (fun v4 h => ?_)
      refine zr_ic_gt (tgt := 63) C dX8_gainOf_57 (by decide) h (fun h => ?_) (fun h => ?_)
      · obtain ⟨v5, e_, h⟩ := zc_lt_x h
        refine lv_iinc (v := v5) (lv' := [(5, .int v5), (3, .int f3), (4, .int f4)]) C.1 C.2.1 dX8_gainOf_63 hl (k := 2) rfl (by subst e_; rfl) (by decide) rfl (fun ls hl => ?_)
        clear e_
        refine lv_goto (tgt := 36) C.1 C.2.1 dX8_gainOf_66 (by decide) ?_
        exact ih _ h _ _ _ w (lv_sub hl [1, 2, 0] rfl)
      · refine lv_iload C.1 C.2.1 dX8_gainOf_60 (lv_at hl 2 rfl) ?_
        exact zr_reti C w hr dX8_gainOf_62 (hor _ (Option.some.inj h).symm) rfl
set_option maxHeartbeats 4000000 in
set_option maxRecDepth 100000 in
theorem zm_X8_gainOf (l : Launch) (G : zg_T) (S : zs_T) (a1 : Int32) (a2 : Int32) (r : Int32) (h : zf_X8_gainOf a1 a2 = some r) : Met l yX8_gainOf (Cond.code yX8_gainOf cX8_gainOf 6 (some .int) :: zt_G) zr_m_X8_gainOf (va_Pc [.int a1, .int a2] (zg_P G S)) (zg_Q G (some (.int r)) S) 0 0 (zg_A G) := by
  refine zx_met (by decide +kernel) (Nat.le_of_ble_eq_true rfl) (lv := [(0, .int a1), (1, .int a2)]) rfl ?_
  intro p e s m below meth c C hr w ls hl
  replace C : zx_C p s m _ meth c G RX8 cX8_gainOf 6 := C
  unfold zf_X8_gainOf at h
  refine lv_iload_n C.1 C.2.1 dX8_gainOf_0 rfl (lv_at hl 0 rfl) ?_
  refine zr_if_ne (tgt := 6) C dX8_gainOf_1 (by decide) h (fun h => ?_) (fun h => ?_)
  · refine lv_iload_n C.1 C.2.1 dX8_gainOf_6 rfl (lv_at hl 0 rfl) ?_
    refine lv_iload_n C.1 C.2.1 dX8_gainOf_7 rfl (lv_at hl 1 rfl) ?_
    refine zr_ic_lt (tgt := 13) C dX8_gainOf_8 (by decide) h (fun h => ?_) (fun h => ?_)
    · refine lv_iload_n C.1 C.2.1 dX8_gainOf_13 rfl (lv_at hl 1 rfl) ?_
      obtain ⟨v1, hc, h⟩ := zc_b1_x h
      refine zr_callSi C w (As := [.int a2]) (zm_X4_norm l G _ _ _ hc) zm_c_X4_norm zm_l_X8_51 zm_s_X4_norm zm_0_X4 zm_d_X4_norm ⟨rfl, rfl⟩ ⟨Nat.le_of_ble_eq_true rfl, Nat.le_of_ble_eq_true rfl⟩ hl.1 rfl rfl (Nat.le_of_ble_eq_true rfl) dX8_gainOf_14 ⟨Nat.le_of_ble_eq_true rfl, Nat.le_of_ble_eq_true rfl⟩ (fun H locs w => ?_)
      clear hc
      refine lv_istore_n (lv' := [(2, .int v1), (0, .int a1), (1, .int a2)]) C.1 C.2.1 dX8_gainOf_17 rfl hl (by decide) rfl (fun ls hl => ?_)
      refine lv_iload_n C.1 C.2.1 dX8_gainOf_18 rfl (lv_at hl 1 rfl) ?_
      refine lv_iload_n C.1 C.2.1 dX8_gainOf_19 rfl (lv_at hl 0 rfl) ?_
      refine lv_ishl C.1 C.2.1 dX8_gainOf_20 ?_
      refine lv_bipush (v := 16) C.1 C.2.1 dX8_gainOf_21 (by decide) ?_
      refine lv_ishr C.1 C.2.1 dX8_gainOf_23 ?_
      refine zr_lti h (fun v2 h => ?_)
      refine lv_istore_n (lv' := [(3, .int v2), (2, .int v1), (0, .int a1), (1, .int a2)]) C.1 C.2.1 dX8_gainOf_24 rfl hl (by decide) rfl (fun ls hl => ?_)
      refine lv_iload_n C.1 C.2.1 dX8_gainOf_25 rfl (lv_at hl 3 rfl) ?_
      refine lv_iload_n C.1 C.2.1 dX8_gainOf_26 rfl (lv_at hl 1 rfl) ?_
      refine lv_ishl C.1 C.2.1 dX8_gainOf_27 ?_
      refine lv_bipush (v := 16) C.1 C.2.1 dX8_gainOf_28 (by decide) ?_
      refine lv_ishr C.1 C.2.1 dX8_gainOf_30 ?_
      refine zr_lti h (fun v3 h => ?_)
      refine lv_istore (lv' := [(4, .int v3), (3, .int v2), (2, .int v1), (0, .int a1), (1, .int a2)]) C.1 C.2.1 dX8_gainOf_31 hl (by decide) rfl (fun ls hl => ?_)
      refine lv_iconst (v := 0) C.1 C.2.1 dX8_gainOf_33 (by decide) ?_
      refine lv_istore (lv' := [(5, .int (0 : Int32)), (4, .int v3), (3, .int v2), (2, .int v1), (0, .int a1), (1, .int a2)]) C.1 C.2.1 dX8_gainOf_34 hl (by decide) rfl (fun ls hl => ?_)
      obtain ⟨o_, hc, h⟩ := zc_s0_x h
      refine zk_X8_gainOf_36 hr _ C _ v2 v3 o_ h.2 (fun _ e_ H locs ls w hl => ?_) _ _ hc _ _ _ w (lv_sub hl [2, 1, 0] rfl)
      replace h := h.1 e_
      clear e_ hc
      refine lv_iconst (v := 3) C.1 C.2.1 dX8_gainOf_69 (by decide) ?_
      exact zr_reti C w hr dX8_gainOf_70 (Option.some.inj h) rfl
    · refine lv_iconst (v := 3) C.1 C.2.1 dX8_gainOf_11 (by decide) ?_
      exact zr_reti C w hr dX8_gainOf_12 (Option.some.inj h) rfl
  · refine lv_iconst (v := 0) C.1 C.2.1 dX8_gainOf_4 (by decide) ?_
    exact zr_reti C w hr dX8_gainOf_5 (Option.some.inj h) rfl
set_option maxHeartbeats 4000000 in
set_option maxRecDepth 100000 in
theorem zk_X8_find_30 {p : Program} {l : Launch} {e : Env} {s : State} {m : MethodId} {args : Array Value} {below : List Frame} {meth : Method} {c : Code} {G : zg_T} {Q : State → Prop} (C : zx_C p s m args meth c G RX8 cX8_find 9) (f4 : Int32) (f5 : Int32) (oS : zs_T) (o6 : Int32) (kont : ∀ (H : Heap) (locs : List Loc) (ls : Array Slot), zg_W G oS s H locs → lv_has ls 9 [(0, .ref (zg_q G 22)), (3, .ref (zg_q G 19)), (4, .int f4), (5, .int f5), (6, .int o6)] → W p l e zr_m_X8_find s m args below meth c H locs 0 0 Q (F0 m 75 ls [])) : ∀ (n : Nat) (S : zs_T) (x6 : Int32) (x7 : Int32), zl_3 (zb_X8_find_30 f4) n S x6 x7 = some (oS, o6) → ∀ (H : Heap) (locs : List Loc) (ls : Array Slot), zg_W G S s H locs → lv_has ls 9 [(0, .ref (zg_q G 22)), (3, .ref (zg_q G 19)), (4, .int f4), (5, .int f5), (6, .int x6), (7, .int x7)] → W p l e zr_m_X8_find s m args below meth c H locs 0 0 Q (F0 m 30 ls []) := by
  intro n
  induction n with
  | zero => intro S x6 x7 h; cases h
  | succ n ih =>
    intro S x6 x7 h H locs ls w hl
    replace h : zb_X8_find_30 f4 (zl_3 (zb_X8_find_30 f4) n) S x6 x7 = some (oS, o6) := h
    generalize zl_3 (zb_X8_find_30 f4) n = rec at ih h
    unfold zb_X8_find_30 at h
    refine lv_iload C.1 C.2.1 dX8_find_30 (lv_at hl 5 rfl) ?_
    refine lv_bipush (v := 120) C.1 C.2.1 dX8_find_32 (by decide) ?_
    refine zr_ic_gt (tgt := 75) C dX8_find_34 (by decide) h (fun h => ?_) (fun h => ?_)
    · cases h
      exact kont _ _ _ w (lv_sub hl [0, 1, 2, 3, 4] rfl)
    · refine lv_aload_n C.1 C.2.1 dX8_find_37 rfl (lv_at hl 0 rfl) ?_
      refine lv_aload_n C.1 C.2.1 dX8_find_38 rfl (lv_at hl 1 rfl) ?_
      refine zr_getN C w 19 zm_w_X5 (zw_g19 G _) rfl 0 (by decide) zm_n_X8_29 rfl dX8_find_39 ?_
      refine lv_iload C.1 C.2.1 dX8_find_42 (lv_at hl 2 rfl) ?_
      refine lv_iload C.1 C.2.1 dX8_find_44 (lv_at hl 5 rfl) ?_
      refine lv_isub C.1 C.2.1 dX8_find_46 ?_
      obtain ⟨v5, hc, h⟩ := zc_b1_x h
      refine zr_callVi C w 22 (zw_g22 G _) rfl (As := [.ref (zg_q G 20), .int (f4 - x7)]) (zm_X8_likeness l G _ _ _ hc) zm_c_X8_likeness zm_l_X8_32 zm_i_X8_likeness zm_e_X8_likeness zm_0_X8 zm_d_X8_likeness ⟨rfl, rfl⟩ ⟨Nat.le_of_ble_eq_true rfl, Nat.le_of_ble_eq_true rfl⟩ hl.1 rfl rfl (Nat.le_of_ble_eq_true rfl) dX8_find_47 ⟨Nat.le_of_ble_eq_true rfl, Nat.le_of_ble_eq_true rfl⟩ (fun H locs w => ?_)
      clear hc
      refine lv_istore (lv' := [(8, .int v5), (0, .ref (zg_q G 22)), (3, .ref (zg_q G 19)), (4, .int f4), (5, .int f5), (6, .int x6), (7, .int x7)]) C.1 C.2.1 dX8_find_50 hl (by decide) rfl (fun ls hl => ?_)
      refine lv_iload C.1 C.2.1 dX8_find_52 (lv_at hl 0 rfl) ?_
      refine lv_iload C.1 C.2.1 dX8_find_54 (lv_at hl 5 rfl) ?_
      refine zr_ic_le (tgt := 69) C dX8_find_56 (by decide) h (fun h => ?_) (fun h => ?_)
      · obtain ⟨v6, e_, h⟩ := zc_lt_x h
        refine lv_iinc (v := v6) (lv' := [(7, .int v6), (8, .int v5), (0, .ref (zg_q G 22)), (3, .ref (zg_q G 19)), (4, .int f4), (5, .int f5), (6, .int x6)]) C.1 C.2.1 dX8_find_69 hl (k := 6) rfl (by subst e_; rfl) (by decide) rfl (fun ls hl => ?_)
        clear e_
        refine lv_goto (tgt := 30) C.1 C.2.1 dX8_find_72 (by decide) ?_
        exact ih _ _ _ h _ _ _ w (lv_sub hl [2, 3, 4, 5, 6, 0] rfl)
      · refine lv_iload C.1 C.2.1 dX8_find_59 (lv_at hl 0 rfl) ?_
        refine lv_istore (lv' := [(6, .int v5), (8, .int v5), (0, .ref (zg_q G 22)), (3, .ref (zg_q G 19)), (4, .int f4), (5, .int f5), (7, .int x7)]) C.1 C.2.1 dX8_find_61 hl (by decide) rfl (fun ls hl => ?_)
        refine lv_aload_n C.1 C.2.1 dX8_find_63 rfl (lv_at hl 2 rfl) ?_
        refine lv_iload C.1 C.2.1 dX8_find_64 (lv_at hl 6 rfl) ?_
        refine zr_put C w 22 zm_w_X8 tyX8 tyX8_ok nmX8 (zw_g22 G _) rfl 1 (by decide) zm_f_X8_25 rfl (ty := .int) (by decide +kernel) rfl rfl (Nat.le_of_ble_eq_true rfl) (zw_f22_1 G _ _) dX8_find_66 h (fun S7 H locs w h => ?_)
        obtain ⟨v8, e_, h⟩ := zc_lt_x h
        refine lv_iinc (v := v8) (lv' := [(7, .int v8), (6, .int v5), (8, .int v5), (0, .ref (zg_q G 22)), (3, .ref (zg_q G 19)), (4, .int f4), (5, .int f5)]) C.1 C.2.1 dX8_find_69 hl (k := 6) rfl (by subst e_; rfl) (by decide) rfl (fun ls hl => ?_)
        clear e_
        refine lv_goto (tgt := 30) C.1 C.2.1 dX8_find_72 (by decide) ?_
        exact ih _ _ _ h _ _ _ w (lv_sub hl [3, 4, 5, 6, 1, 0] rfl)
set_option maxHeartbeats 4000000 in
set_option maxRecDepth 100000 in
theorem zm_X8_find (l : Launch) (G : zg_T) (S : zs_T) (a1 : Int32) (S1 : zs_T) (h : zf_X8_find S a1 = some S1) : Met l yX8_find (Cond.code yX8_find cX8_find 9 none :: zt_G) zr_m_X8_find (va_Pc [.ref (zg_q G 22), .ref (zg_q G 6), .int a1, .ref (zg_q G 19)] (zg_P G S)) (zg_Q G none S1) 0 0 (zg_A G) := by
  refine zx_met (by decide +kernel) (Nat.le_of_ble_eq_true rfl) (lv := [(0, .ref (zg_q G 22)), (1, .ref (zg_q G 6)), (2, .int a1), (3, .ref (zg_q G 19))]) rfl ?_
  intro p e s m below meth c C hr w ls hl
  replace C : zx_C p s m _ meth c G RX8 cX8_find 9 := C
  unfold zf_X8_find at h
  refine lv_iload_n C.1 C.2.1 dX8_find_0 rfl (lv_at hl 2 rfl) ?_
  refine zr_callSi C w (As := [.int a1]) (zm_X5_from l G _ _ _ rfl) zm_c_X5_from zm_l_X8_15 zm_s_X5_from zm_0_X5 zm_d_X5_from ⟨rfl, rfl⟩ ⟨Nat.le_of_ble_eq_true rfl, Nat.le_of_ble_eq_true rfl⟩ hl.1 rfl rfl (Nat.le_of_ble_eq_true rfl) dX8_find_1 ⟨Nat.le_of_ble_eq_true rfl, Nat.le_of_ble_eq_true rfl⟩ (fun H locs w => ?_)
  refine zr_lti h (fun v1 h => ?_)
  refine lv_istore (lv' := [(4, .int v1), (0, .ref (zg_q G 22)), (1, .ref (zg_q G 6)), (2, .int a1), (3, .ref (zg_q G 19))]) C.1 C.2.1 dX8_find_4 hl (by decide) rfl (fun ls hl => ?_)
  refine lv_aload_n C.1 C.2.1 dX8_find_6 rfl (lv_at hl 1 rfl) ?_
  refine lv_aload_n C.1 C.2.1 dX8_find_7 rfl (lv_at hl 2 rfl) ?_
  refine lv_bipush (v := 40) C.1 C.2.1 dX8_find_8 (by decide) ?_
  refine lv_iload_n C.1 C.2.1 dX8_find_10 rfl (lv_at hl 3 rfl) ?_
  refine lv_imul C.1 C.2.1 dX8_find_11 ?_
  obtain ⟨v2, S3, hc, h⟩ := zc_b2_x h
  refine zr_callVi C w 22 (zw_g22 G _) rfl (As := [.ref (zg_q G 6), .int ((40 : Int32) * a1)]) (zm_X8_lower l G _ _ _ _ hc) zm_c_X8_lower zm_l_X8_21 zm_i_X8_lower zm_e_X8_lower zm_0_X8 zm_d_X8_lower ⟨rfl, rfl⟩ ⟨Nat.le_of_ble_eq_true rfl, Nat.le_of_ble_eq_true rfl⟩ hl.1 rfl rfl (Nat.le_of_ble_eq_true rfl) dX8_find_12 ⟨Nat.le_of_ble_eq_true rfl, Nat.le_of_ble_eq_true rfl⟩ (fun H locs w => ?_)
  clear hc
  refine lv_istore (lv' := [(5, .int v2), (4, .int v1), (0, .ref (zg_q G 22)), (1, .ref (zg_q G 6)), (2, .int a1), (3, .ref (zg_q G 19))]) C.1 C.2.1 dX8_find_15 hl (by decide) rfl (fun ls hl => ?_)
  refine lv_iconst (v := 0) C.1 C.2.1 dX8_find_17 (by decide) ?_
  refine lv_istore (lv' := [(6, .int (0 : Int32)), (5, .int v2), (4, .int v1), (0, .ref (zg_q G 22)), (1, .ref (zg_q G 6)), (2, .int a1), (3, .ref (zg_q G 19))]) C.1 C.2.1 dX8_find_18 hl (by decide) rfl (fun ls hl => ?_)
  refine lv_aload_n C.1 C.2.1 dX8_find_20 rfl (lv_at hl 3 rfl) ?_
  refine lv_bipush (v := 40) C.1 C.2.1 dX8_find_21 (by decide) ?_
  refine zr_put C w 22 zm_w_X8 tyX8 tyX8_ok nmX8 (zw_g22 G _) rfl 1 (by decide) zm_f_X8_25 rfl (ty := .int) (by decide +kernel) rfl rfl (Nat.le_of_ble_eq_true rfl) (zw_f22_1 G _ _) dX8_find_23 h (fun S4 H locs w h => ?_)
  refine lv_bipush (v := 40) C.1 C.2.1 dX8_find_26 (by decide) ?_
  refine lv_istore (lv' := [(7, .int (40 : Int32)), (6, .int (0 : Int32)), (5, .int v2), (4, .int v1), (0, .ref (zg_q G 22)), (1, .ref (zg_q G 6)), (2, .int a1), (3, .ref (zg_q G 19))]) C.1 C.2.1 dX8_find_28 hl (by decide) rfl (fun ls hl => ?_)
  obtain ⟨S9, v10, hc, h⟩ := zc_b2_x h
  refine zk_X8_find_30 C v1 v2 S9 v10 (fun H locs ls w hl => ?_) _ _ _ _ hc _ _ _ w (lv_sub hl [4, 7, 3, 2, 1, 0] rfl)
  clear hc
  refine lv_aload_n C.1 C.2.1 dX8_find_75 rfl (lv_at hl 0 rfl) ?_
  refine lv_iconst (v := 2) C.1 C.2.1 dX8_find_76 (by decide) ?_
  refine lv_iload C.1 C.2.1 dX8_find_77 (lv_at hl 4 rfl) ?_
  refine lv_imul C.1 C.2.1 dX8_find_79 ?_
  refine lv_bipush (v := 6) C.1 C.2.1 dX8_find_80 (by decide) ?_
  refine lv_iload C.1 C.2.1 dX8_find_82 (lv_at hl 3 rfl) ?_
  refine lv_isub C.1 C.2.1 dX8_find_84 ?_
  refine lv_ishr C.1 C.2.1 dX8_find_85 ?_
  refine lv_aload_n C.1 C.2.1 dX8_find_86 rfl (lv_at hl 1 rfl) ?_
  refine zr_getN C w 19 zm_w_X5 (zw_g19 G _) rfl 0 (by decide) zm_n_X8_29 rfl dX8_find_87 ?_
  refine lv_iload C.1 C.2.1 dX8_find_90 (lv_at hl 2 rfl) ?_
  refine lv_aload_n C.1 C.2.1 dX8_find_92 rfl (lv_at hl 0 rfl) ?_
  refine zr_get C w 22 zm_w_X8 (zw_g22 G _) rfl 1 (by decide) zm_f_X8_25 rfl dX8_find_93 ?_
  refine lv_isub C.1 C.2.1 dX8_find_96 ?_
  obtain ⟨v11, hc, h⟩ := zc_b1_x h
  refine zr_callSi C w (As := [.ref (zg_q G 20), .int (v1 - (S9.1 22 1))]) (zm_X8_power l G _ _ _ hc) zm_c_X8_power zm_l_X8_35 zm_s_X8_power zm_0_X8 zm_d_X8_power ⟨rfl, rfl⟩ ⟨Nat.le_of_ble_eq_true rfl, Nat.le_of_ble_eq_true rfl⟩ hl.1 rfl rfl (Nat.le_of_ble_eq_true rfl) dX8_find_97 ⟨Nat.le_of_ble_eq_true rfl, Nat.le_of_ble_eq_true rfl⟩ (fun H locs w => ?_)
  clear hc
  obtain ⟨v12, hc, h⟩ := zc_b1_x h
  refine zr_callSi C w (As := [.int (((2 : Int32) * v10) >>> (((6 : Int32) - v2) &&& 31)), .int v11]) (zm_X8_gainOf l G _ _ _ _ hc) zm_c_X8_gainOf zm_l_X8_38 zm_s_X8_gainOf zm_0_X8 zm_d_X8_gainOf ⟨rfl, rfl⟩ ⟨Nat.le_of_ble_eq_true rfl, Nat.le_of_ble_eq_true rfl⟩ hl.1 rfl rfl (Nat.le_of_ble_eq_true rfl) dX8_find_100 ⟨Nat.le_of_ble_eq_true rfl, Nat.le_of_ble_eq_true rfl⟩ (fun H locs w => ?_)
  clear hc
  refine zr_put C w 22 zm_w_X8 tyX8 tyX8_ok nmX8 (zw_g22 G _) rfl 2 (by decide) zm_f_X8_42 rfl (ty := .int) (by decide +kernel) rfl rfl (Nat.le_of_ble_eq_true rfl) (zw_f22_2 G _ _) dX8_find_103 h (fun S13 H locs w h => ?_)
  exact zr_retv C w hr dX8_find_106 (Option.some.inj h)
set_option maxHeartbeats 4000000 in
set_option maxRecDepth 100000 in
theorem zk_X5_look_3_19 {p : Program} {l : Launch} {e : Env} {s : State} {m : MethodId} {args : Array Value} {below : List Frame} {meth : Method} {c : Code} {G : zg_T} {Q : State → Prop} (C : zx_C p s m args meth c G RX5 cX5_look 5) (f1 : Int32) (f2 : Int32) (f3 : Int32) (oS : zs_T) (kont : ∀ (H : Heap) (locs : List Loc) (ls : Array Slot), zg_W G oS s H locs → lv_has ls 5 [] → W p l e zr_m_X5_look s m args below meth c H locs 0 0 Q (F0 m 45 ls [])) : ∀ (n : Nat) (S : zs_T) (x4 : Int32), zl_2 (zb_X5_look_3 20 21 f1 f2 f3) n S x4 = some oS → ∀ (H : Heap) (locs : List Loc) (ls : Array Slot), zg_W G S s H locs → lv_has ls 5 [(0, .ref (zg_q G 19)), (1, .int f1), (2, .int f2), (3, .int f3), (4, .int x4)] → W p l e zr_m_X5_look s m args below meth c H locs 0 0 Q (F0 m 3 ls []) := by
  intro n
  induction n with
  | zero => intro S x4 h; cases h
  | succ n ih =>
    intro S x4 h H locs ls w hl
    replace h : zb_X5_look_3 20 21 f1 f2 f3 (zl_2 (zb_X5_look_3 20 21 f1 f2 f3) n) S x4 = some oS := h
    generalize zl_2 (zb_X5_look_3 20 21 f1 f2 f3) n = rec at ih h
    unfold zb_X5_look_3 at h
    refine lv_iload C.1 C.2.1 dX5_look_3 (lv_at hl 4 rfl) ?_
    refine lv_bipush (v := 40) C.1 C.2.1 dX5_look_5 (by decide) ?_
    refine zr_ic_ge (tgt := 45) C dX5_look_7 (by decide) h (fun h => ?_) (fun h => ?_)
    · cases h
      exact kont _ _ _ w (lv_sub hl [] rfl)
    · refine lv_aload_n C.1 C.2.1 dX5_look_10 rfl (lv_at hl 0 rfl) ?_
      refine zr_get C w 19 zm_w_X5 (zw_g19 G _) rfl 1 (by decide) zm_f_X5_15 rfl dX5_look_11 ?_
      refine lv_iload C.1 C.2.1 dX5_look_14 (lv_at hl 4 rfl) ?_
      refine zr_gets C w 8 (by decide) zm_f_X5_18 dX5_look_16 ?_
      refine lv_iload_n C.1 C.2.1 dX5_look_19 rfl (lv_at hl 3 rfl) ?_
      refine zr_tab C w 8 (by decide) (n := 4) rfl (g := zt_v8) rfl dX5_look_20 h (fun h => ?_)
      refine lv_aload_n C.1 C.2.1 dX5_look_21 rfl (lv_at hl 0 rfl) ?_
      refine zr_get C w 19 zm_w_X5 (zw_g19 G _) rfl 0 (by decide) zm_f_X5_9 rfl dX5_look_22 ?_
      refine lv_iload_n C.1 C.2.1 dX5_look_25 rfl (lv_at hl 1 rfl) ?_
      refine zr_callSi C w (As := [.int f1]) (zm_X5_from l G _ _ _ rfl) zm_c_X5_from zm_l_X5_21 zm_s_X5_from zm_0_X5 zm_d_X5_from ⟨rfl, rfl⟩ ⟨Nat.le_of_ble_eq_true rfl, Nat.le_of_ble_eq_true rfl⟩ hl.1 rfl rfl (Nat.le_of_ble_eq_true rfl) dX5_look_26 ⟨Nat.le_of_ble_eq_true rfl, Nat.le_of_ble_eq_true rfl⟩ (fun H locs w => ?_)
      refine zr_lti h (fun v1 h => ?_)
      refine lv_iload C.1 C.2.1 dX5_look_29 (lv_at hl 4 rfl) ?_
      refine lv_iadd C.1 C.2.1 dX5_look_31 ?_
      refine lv_iload_n C.1 C.2.1 dX5_look_32 rfl (lv_at hl 2 rfl) ?_
      refine lv_isub C.1 C.2.1 dX5_look_33 ?_
      refine zr_iald C w 20 (zw_g20 G _) dX5_look_34 h (fun h => ?_)
      refine zr_callSi C w (As := [.int (zt_v8 (Int32.toNatClampNeg f3)), .int (S.1 20 (Int32.toNatClampNeg ((v1 + x4) - f2)))]) (zm_X4_rounded l G _ _ _ _ rfl) zm_c_X4_rounded zm_l_X5_25 zm_s_X4_rounded zm_0_X4 zm_d_X4_rounded ⟨rfl, rfl⟩ ⟨Nat.le_of_ble_eq_true rfl, Nat.le_of_ble_eq_true rfl⟩ hl.1 rfl rfl (Nat.le_of_ble_eq_true rfl) dX5_look_35 ⟨Nat.le_of_ble_eq_true rfl, Nat.le_of_ble_eq_true rfl⟩ (fun H locs w => ?_)
      refine zr_lti h (fun v2 h => ?_)
      refine zr_iast C w 21 (zw_g21 G _) (zw_s21 G _) dX5_look_38 h (fun S3 H locs w h => ?_)
      obtain ⟨v4, e_, h⟩ := zc_lt_x h
      refine lv_iinc (v := v4) (lv' := [(4, .int v4), (0, .ref (zg_q G 19)), (1, .int f1), (2, .int f2), (3, .int f3)]) C.1 C.2.1 dX5_look_39 hl (k := 4) rfl (by subst e_; rfl) (by decide) rfl (fun ls hl => ?_)
      clear e_
      refine lv_goto (tgt := 3) C.1 C.2.1 dX5_look_42 (by decide) ?_
      exact ih _ _ h _ _ _ w (lv_sub hl [1, 2, 3, 4, 0] rfl)
set_option maxHeartbeats 4000000 in
set_option maxRecDepth 100000 in
theorem zm_X5_look_19 (l : Launch) (G : zg_T) (S : zs_T) (a1 : Int32) (a2 : Int32) (a3 : Int32) (S1 : zs_T) (h : zf_X5_look 20 21 S a1 a2 a3 = some S1) : Met l yX5_look (Cond.code yX5_look cX5_look 5 none :: zt_G) zr_m_X5_look (va_Pc [.ref (zg_q G 19), .int a1, .int a2, .int a3] (zg_P G S)) (zg_Q G none S1) 0 0 (zg_A G) := by
  refine zx_met (by decide +kernel) (Nat.le_of_ble_eq_true rfl) (lv := [(0, .ref (zg_q G 19)), (1, .int a1), (2, .int a2), (3, .int a3)]) rfl ?_
  intro p e s m below meth c C hr w ls hl
  replace C : zx_C p s m _ meth c G RX5 cX5_look 5 := C
  unfold zf_X5_look at h
  refine lv_iconst (v := 0) C.1 C.2.1 dX5_look_0 (by decide) ?_
  refine lv_istore (lv' := [(4, .int (0 : Int32)), (0, .ref (zg_q G 19)), (1, .int a1), (2, .int a2), (3, .int a3)]) C.1 C.2.1 dX5_look_1 hl (by decide) rfl (fun ls hl => ?_)
  obtain ⟨S5, hc, h⟩ := zc_b1_x h
  refine zk_X5_look_3_19 C a1 a2 a3 S5 (fun H locs ls w hl => ?_) _ _ _ hc _ _ _ w (lv_sub hl [1, 2, 3, 4, 0] rfl)
  clear hc
  exact zr_retv C w hr dX5_look_45 (Option.some.inj h)
set_option maxHeartbeats 4000000 in
set_option maxRecDepth 100000 in
theorem zk_X9_filtered_6 {p : Program} {l : Launch} {e : Env} {s : State} {m : MethodId} {args : Array Value} {below : List Frame} {meth : Method} {c : Code} {G : zg_T} {Q : State → Prop} (C : zx_C p s m args meth c G RX9 cX9_filtered 4) (S : zs_T) (f1 : Int32) (o2 : Int32) (kont : ∀ (H : Heap) (locs : List Loc) (ls : Array Slot), zg_W G S s H locs → lv_has ls 4 [(2, .int o2)] → W p l e zr_m_X9_filtered s m args below meth c H locs 0 0 Q (F0 m 37 ls [])) : ∀ (n : Nat) (x2 : Int32) (x3 : Int32), zl_2 (zb_X9_filtered_6 S f1) n x2 x3 = some o2 → ∀ (H : Heap) (locs : List Loc) (ls : Array Slot), zg_W G S s H locs → lv_has ls 4 [(0, .ref (zg_q G 24)), (1, .int f1), (2, .int x2), (3, .int x3)] → W p l e zr_m_X9_filtered s m args below meth c H locs 0 0 Q (F0 m 6 ls []) := by
  intro n
  induction n with
  | zero => intro x2 x3 h; cases h
  | succ n ih =>
    intro x2 x3 h H locs ls w hl
    replace h : zb_X9_filtered_6 S f1 (zl_2 (zb_X9_filtered_6 S f1) n) x2 x3 = some o2 := h
    generalize zl_2 (zb_X9_filtered_6 S f1) n = rec at ih h
    unfold zb_X9_filtered_6 at h
    refine lv_iload_n C.1 C.2.1 dX9_filtered_6 rfl (lv_at hl 3 rfl) ?_
    refine zr_gets C w 10 (by decide) zm_f_X9_45 dX9_filtered_7 ?_
    refine zr_tlen C w 10 (by decide) (v := 11) (by decide) dX9_filtered_10 ?_
    refine zr_ic_ge (tgt := 37) C dX9_filtered_11 (by decide) h (fun h => ?_) (fun h => ?_)
    · cases h
      exact kont _ _ _ w (lv_sub hl [2] rfl)
    · refine lv_iload_n C.1 C.2.1 dX9_filtered_14 rfl (lv_at hl 2 rfl) ?_
      refine zr_gets C w 10 (by decide) zm_f_X9_45 dX9_filtered_15 ?_
      refine lv_iload_n C.1 C.2.1 dX9_filtered_18 rfl (lv_at hl 3 rfl) ?_
      refine zr_tab C w 10 (by decide) (n := 11) rfl (g := zt_v10) rfl dX9_filtered_19 h (fun h => ?_)
      refine lv_aload_n C.1 C.2.1 dX9_filtered_20 rfl (lv_at hl 0 rfl) ?_
      refine zr_get C w 24 zm_w_X9 (zw_g24 G _) rfl 0 (by decide) zm_f_X9_11 rfl dX9_filtered_21 ?_
      refine lv_iload_n C.1 C.2.1 dX9_filtered_24 rfl (lv_at hl 1 rfl) ?_
      refine lv_iload_n C.1 C.2.1 dX9_filtered_25 rfl (lv_at hl 3 rfl) ?_
      refine lv_iadd C.1 C.2.1 dX9_filtered_26 ?_
      refine zr_iald C w 25 (zw_g25 G _) dX9_filtered_27 h (fun h => ?_)
      refine lv_imul C.1 C.2.1 dX9_filtered_28 ?_
      refine lv_iadd C.1 C.2.1 dX9_filtered_29 ?_
      refine zr_lti h (fun v1 h => ?_)
      refine lv_istore_n (lv' := [(2, .int v1), (0, .ref (zg_q G 24)), (1, .int f1), (3, .int x3)]) C.1 C.2.1 dX9_filtered_30 rfl hl (by decide) rfl (fun ls hl => ?_)
      obtain ⟨v2, e_, h⟩ := zc_lt_x h
      refine lv_iinc (v := v2) (lv' := [(3, .int v2), (2, .int v1), (0, .ref (zg_q G 24)), (1, .int f1)]) C.1 C.2.1 dX9_filtered_31 hl (k := 3) rfl (by subst e_; rfl) (by decide) rfl (fun ls hl => ?_)
      clear e_
      refine lv_goto (tgt := 6) C.1 C.2.1 dX9_filtered_34 (by decide) ?_
      exact ih _ _ h _ _ _ w (lv_sub hl [2, 3, 1, 0] rfl)
set_option maxHeartbeats 4000000 in
set_option maxRecDepth 100000 in
theorem zm_X9_filtered (l : Launch) (G : zg_T) (S : zs_T) (a1 : Int32) (r : Int32) (h : zf_X9_filtered S a1 = some r) : Met l yX9_filtered (Cond.code yX9_filtered cX9_filtered 4 (some .int) :: zt_G) zr_m_X9_filtered (va_Pc [.ref (zg_q G 24), .int a1] (zg_P G S)) (zg_Q G (some (.int r)) S) 0 0 (zg_A G) := by
  refine zx_met (by decide +kernel) (Nat.le_of_ble_eq_true rfl) (lv := [(0, .ref (zg_q G 24)), (1, .int a1)]) rfl ?_
  intro p e s m below meth c C hr w ls hl
  replace C : zx_C p s m _ meth c G RX9 cX9_filtered 4 := C
  unfold zf_X9_filtered at h
  refine lv_sipush (v := 4096) C.1 C.2.1 dX9_filtered_0 (by decide) ?_
  refine lv_istore_n (lv' := [(2, .int (4096 : Int32)), (0, .ref (zg_q G 24)), (1, .int a1)]) C.1 C.2.1 dX9_filtered_3 rfl hl (by decide) rfl (fun ls hl => ?_)
  refine lv_iconst (v := 0) C.1 C.2.1 dX9_filtered_4 (by decide) ?_
  refine lv_istore_n (lv' := [(3, .int (0 : Int32)), (2, .int (4096 : Int32)), (0, .ref (zg_q G 24)), (1, .int a1)]) C.1 C.2.1 dX9_filtered_5 rfl hl (by decide) rfl (fun ls hl => ?_)
  obtain ⟨v3, hc, h⟩ := zc_b1_x h
  refine zk_X9_filtered_6 C _ a1 v3 (fun H locs ls w hl => ?_) _ _ _ hc _ _ _ w (lv_sub hl [2, 3, 1, 0] rfl)
  clear hc
  refine lv_iload_n C.1 C.2.1 dX9_filtered_37 rfl (lv_at hl 0 rfl) ?_
  refine lv_bipush (v := 13) C.1 C.2.1 dX9_filtered_38 (by decide) ?_
  refine lv_ishr C.1 C.2.1 dX9_filtered_40 ?_
  refine zr_callSi C w (As := [.int (v3 >>> ((13 : Int32) &&& 31))]) (zm_X4_cut l G _ _ _ rfl) zm_c_X4_cut zm_l_X9_18 zm_s_X4_cut zm_0_X4 zm_d_X4_cut ⟨rfl, rfl⟩ ⟨Nat.le_of_ble_eq_true rfl, Nat.le_of_ble_eq_true rfl⟩ hl.1 rfl rfl (Nat.le_of_ble_eq_true rfl) dX9_filtered_41 ⟨Nat.le_of_ble_eq_true rfl, Nat.le_of_ble_eq_true rfl⟩ (fun H locs w => ?_)
  refine zr_lti h (fun v4 h => ?_)
  exact zr_reti C w hr dX9_filtered_44 (Option.some.inj h) rfl
set_option maxHeartbeats 4000000 in
set_option maxRecDepth 100000 in
theorem zk_X9_loudestGrid_17 {p : Program} {l : Launch} {e : Env} {s : State} {m : MethodId} {args : Array Value} {below : List Frame} {meth : Method} {c : Code} {G : zg_T} {Q : State → Prop} (C : zx_C p s m args meth c G RX9 cX9_loudestGrid 7) (S : zs_T) (f1 : Int32) (f2 : Int32) (f3 : Int32) (o4 : Int32) (kont : ∀ (H : Heap) (locs : List Loc) (ls : Array Slot), zg_W G S s H locs → lv_has ls 7 [(0, .ref (zg_q G 24)), (1, .int f1), (2, .int f2), (3, .int f3), (4, .int o4)] → W p l e zr_m_X9_loudestGrid s m args below meth c H locs 0 0 Q (F0 m 55 ls [])) : ∀ (n : Nat) (x4 : Int32) (x5 : Int32), zl_2 (zb_X9_loudestGrid_17 S f3) n x4 x5 = some o4 → ∀ (H : Heap) (locs : List Loc) (ls : Array Slot), zg_W G S s H locs → lv_has ls 7 [(0, .ref (zg_q G 24)), (1, .int f1), (2, .int f2), (3, .int f3), (4, .int x4), (5, .int x5)] → W p l e zr_m_X9_loudestGrid s m args below meth c H locs 0 0 Q (F0 m 17 ls []) := by
  intro n
  induction n with
  | zero => intro x4 x5 h; cases h
  | succ n ih =>
    intro x4 x5 h H locs ls w hl
    replace h : zb_X9_loudestGrid_17 S f3 (zl_2 (zb_X9_loudestGrid_17 S f3) n) x4 x5 = some o4 := h
    generalize zl_2 (zb_X9_loudestGrid_17 S f3) n = rec at ih h
    unfold zb_X9_loudestGrid_17 at h
    refine lv_iload C.1 C.2.1 dX9_loudestGrid_17 (lv_at hl 5 rfl) ?_
    refine lv_bipush (v := 13) C.1 C.2.1 dX9_loudestGrid_19 (by decide) ?_
    refine zr_ic_ge (tgt := 55) C dX9_loudestGrid_21 (by decide) h (fun h => ?_) (fun h => ?_)
    · cases h
      exact kont _ _ _ w (lv_sub hl [0, 1, 2, 3, 4] rfl)
    · refine lv_aload_n C.1 C.2.1 dX9_loudestGrid_24 rfl (lv_at hl 0 rfl) ?_
      refine zr_get C w 24 zm_w_X9 (zw_g24 G _) rfl 1 (by decide) zm_f_X9_15 rfl dX9_loudestGrid_25 ?_
      refine lv_iload_n C.1 C.2.1 dX9_loudestGrid_28 rfl (lv_at hl 3 rfl) ?_
      refine lv_iconst (v := 3) C.1 C.2.1 dX9_loudestGrid_29 (by decide) ?_
      refine lv_iload C.1 C.2.1 dX9_loudestGrid_30 (lv_at hl 5 rfl) ?_
      refine lv_imul C.1 C.2.1 dX9_loudestGrid_32 ?_
      refine lv_iadd C.1 C.2.1 dX9_loudestGrid_33 ?_
      refine zr_iald C w 26 (zw_g26 G _) dX9_loudestGrid_34 h (fun h => ?_)
      refine lv_iconst (v := 2) C.1 C.2.1 dX9_loudestGrid_35 (by decide) ?_
      refine lv_ishr C.1 C.2.1 dX9_loudestGrid_36 ?_
      refine zr_lti h (fun v1 h => ?_)
      refine lv_istore (lv' := [(6, .int v1), (0, .ref (zg_q G 24)), (1, .int f1), (2, .int f2), (3, .int f3), (4, .int x4), (5, .int x5)]) C.1 C.2.1 dX9_loudestGrid_37 hl (by decide) rfl (fun ls hl => ?_)
      refine lv_iload C.1 C.2.1 dX9_loudestGrid_39 (lv_at hl 5 rfl) ?_
      refine lv_iload C.1 C.2.1 dX9_loudestGrid_41 (lv_at hl 0 rfl) ?_
      refine lv_iload C.1 C.2.1 dX9_loudestGrid_43 (lv_at hl 0 rfl) ?_
      refine lv_imul C.1 C.2.1 dX9_loudestGrid_45 ?_
      refine lv_iadd C.1 C.2.1 dX9_loudestGrid_46 ?_
      refine zr_lti h (fun v2 h => ?_)
      refine lv_istore (lv' := [(4, .int v2), (6, .int v1), (0, .ref (zg_q G 24)), (1, .int f1), (2, .int f2), (3, .int f3), (5, .int x5)]) C.1 C.2.1 dX9_loudestGrid_47 hl (by decide) rfl (fun ls hl => ?_)
      obtain ⟨v3, e_, h⟩ := zc_lt_x h
      refine lv_iinc (v := v3) (lv' := [(5, .int v3), (4, .int v2), (6, .int v1), (0, .ref (zg_q G 24)), (1, .int f1), (2, .int f2), (3, .int f3)]) C.1 C.2.1 dX9_loudestGrid_49 hl (k := 6) rfl (by subst e_; rfl) (by decide) rfl (fun ls hl => ?_)
      clear e_
      refine lv_goto (tgt := 17) C.1 C.2.1 dX9_loudestGrid_52 (by decide) ?_
      exact ih _ _ h _ _ _ w (lv_sub hl [3, 4, 5, 6, 1, 0] rfl)
set_option maxHeartbeats 4000000 in
set_option maxRecDepth 100000 in
theorem zk_X9_loudestGrid_6 {p : Program} {l : Launch} {e : Env} {s : State} {m : MethodId} {args : Array Value} {below : List Frame} {meth : Method} {c : Code} {G : zg_T} {Q : State → Prop} (C : zx_C p s m args meth c G RX9 cX9_loudestGrid 7) (S : zs_T) (o1 : Int32) (kont : ∀ (H : Heap) (locs : List Loc) (ls : Array Slot), zg_W G S s H locs → lv_has ls 7 [(1, .int o1)] → W p l e zr_m_X9_loudestGrid s m args below meth c H locs 0 0 Q (F0 m 72 ls [])) : ∀ (n : Nat) (x1 : Int32) (x2 : Int32) (x3 : Int32), zl_3 (zb_X9_loudestGrid_6 S) n x1 x2 x3 = some o1 → ∀ (H : Heap) (locs : List Loc) (ls : Array Slot), zg_W G S s H locs → lv_has ls 7 [(0, .ref (zg_q G 24)), (1, .int x1), (2, .int x2), (3, .int x3)] → W p l e zr_m_X9_loudestGrid s m args below meth c H locs 0 0 Q (F0 m 6 ls []) := by
  intro n
  induction n with
  | zero => intro x1 x2 x3 h; cases h
  | succ n ih =>
    intro x1 x2 x3 h H locs ls w hl
    replace h : zb_X9_loudestGrid_6 S (zl_3 (zb_X9_loudestGrid_6 S) n) x1 x2 x3 = some o1 := h
    generalize zl_3 (zb_X9_loudestGrid_6 S) n = rec at ih h
    unfold zb_X9_loudestGrid_6 at h
    refine lv_iload_n C.1 C.2.1 dX9_loudestGrid_6 rfl (lv_at hl 3 rfl) ?_
    refine lv_iconst (v := 4) C.1 C.2.1 dX9_loudestGrid_7 (by decide) ?_
    refine zr_ic_ge (tgt := 72) C dX9_loudestGrid_8 (by decide) h (fun h => ?_) (fun h => ?_)
    · cases h
      exact kont _ _ _ w (lv_sub hl [1] rfl)
    · refine lv_iconst (v := 0) C.1 C.2.1 dX9_loudestGrid_11 (by decide) ?_
      refine lv_istore (lv' := [(4, .int (0 : Int32)), (0, .ref (zg_q G 24)), (1, .int x1), (2, .int x2), (3, .int x3)]) C.1 C.2.1 dX9_loudestGrid_12 hl (by decide) rfl (fun ls hl => ?_)
      refine lv_iconst (v := 0) C.1 C.2.1 dX9_loudestGrid_14 (by decide) ?_
      refine lv_istore (lv' := [(5, .int (0 : Int32)), (4, .int (0 : Int32)), (0, .ref (zg_q G 24)), (1, .int x1), (2, .int x2), (3, .int x3)]) C.1 C.2.1 dX9_loudestGrid_15 hl (by decide) rfl (fun ls hl => ?_)
      obtain ⟨v4, hc, h⟩ := zc_b1_x h
      refine zk_X9_loudestGrid_17 C _ x1 x2 x3 v4 (fun H locs ls w hl => ?_) _ _ _ hc _ _ _ w (lv_sub hl [2, 3, 4, 5, 1, 0] rfl)
      clear hc
      refine lv_iload C.1 C.2.1 dX9_loudestGrid_55 (lv_at hl 4 rfl) ?_
      refine lv_iload_n C.1 C.2.1 dX9_loudestGrid_57 rfl (lv_at hl 2 rfl) ?_
      refine zr_ic_le (tgt := 66) C dX9_loudestGrid_58 (by decide) h (fun h => ?_) (fun h => ?_)
      · obtain ⟨v5, e_, h⟩ := zc_lt_x h
        refine lv_iinc (v := v5) (lv' := [(3, .int v5), (0, .ref (zg_q G 24)), (1, .int x1), (2, .int x2), (4, .int v4)]) C.1 C.2.1 dX9_loudestGrid_66 hl (k := 3) rfl (by subst e_; rfl) (by decide) rfl (fun ls hl => ?_)
        clear e_
        refine lv_goto (tgt := 6) C.1 C.2.1 dX9_loudestGrid_69 (by decide) ?_
        exact ih _ _ _ h _ _ _ w (lv_sub hl [1, 2, 3, 0] rfl)
      · refine lv_iload C.1 C.2.1 dX9_loudestGrid_61 (lv_at hl 4 rfl) ?_
        refine lv_istore_n (lv' := [(2, .int v4), (0, .ref (zg_q G 24)), (1, .int x1), (3, .int x3), (4, .int v4)]) C.1 C.2.1 dX9_loudestGrid_63 rfl hl (by decide) rfl (fun ls hl => ?_)
        refine lv_iload_n C.1 C.2.1 dX9_loudestGrid_64 rfl (lv_at hl 3 rfl) ?_
        refine lv_istore_n (lv' := [(1, .int x3), (2, .int v4), (0, .ref (zg_q G 24)), (3, .int x3), (4, .int v4)]) C.1 C.2.1 dX9_loudestGrid_65 rfl hl (by decide) rfl (fun ls hl => ?_)
        obtain ⟨v6, e_, h⟩ := zc_lt_x h
        refine lv_iinc (v := v6) (lv' := [(3, .int v6), (1, .int x3), (2, .int v4), (0, .ref (zg_q G 24)), (4, .int v4)]) C.1 C.2.1 dX9_loudestGrid_66 hl (k := 3) rfl (by subst e_; rfl) (by decide) rfl (fun ls hl => ?_)
        clear e_
        refine lv_goto (tgt := 6) C.1 C.2.1 dX9_loudestGrid_69 (by decide) ?_
        exact ih _ _ _ h _ _ _ w (lv_sub hl [3, 1, 2, 0] rfl)
set_option maxHeartbeats 4000000 in
set_option maxRecDepth 100000 in
theorem zm_X9_loudestGrid (l : Launch) (G : zg_T) (S : zs_T) (r : Int32) (h : zf_X9_loudestGrid S = some r) : Met l yX9_loudestGrid (Cond.code yX9_loudestGrid cX9_loudestGrid 7 (some .int) :: zt_G) zr_m_X9_loudestGrid (va_Pc [.ref (zg_q G 24)] (zg_P G S)) (zg_Q G (some (.int r)) S) 0 0 (zg_A G) := by
  refine zx_met (by decide +kernel) (Nat.le_of_ble_eq_true rfl) (lv := [(0, .ref (zg_q G 24))]) rfl ?_
  intro p e s m below meth c C hr w ls hl
  replace C : zx_C p s m _ meth c G RX9 cX9_loudestGrid 7 := C
  unfold zf_X9_loudestGrid at h
  refine lv_iconst (v := 0) C.1 C.2.1 dX9_loudestGrid_0 (by decide) ?_
  refine lv_istore_n (lv' := [(1, .int (0 : Int32)), (0, .ref (zg_q G 24))]) C.1 C.2.1 dX9_loudestGrid_1 rfl hl (by decide) rfl (fun ls hl => ?_)
  refine lv_iconst (v := 0) C.1 C.2.1 dX9_loudestGrid_2 (by decide) ?_
  refine lv_istore_n (lv' := [(2, .int (0 : Int32)), (1, .int (0 : Int32)), (0, .ref (zg_q G 24))]) C.1 C.2.1 dX9_loudestGrid_3 rfl hl (by decide) rfl (fun ls hl => ?_)
  refine lv_iconst (v := 0) C.1 C.2.1 dX9_loudestGrid_4 (by decide) ?_
  refine lv_istore_n (lv' := [(3, .int (0 : Int32)), (2, .int (0 : Int32)), (1, .int (0 : Int32)), (0, .ref (zg_q G 24))]) C.1 C.2.1 dX9_loudestGrid_5 rfl hl (by decide) rfl (fun ls hl => ?_)
  obtain ⟨v7, hc, h⟩ := zc_b1_x h
  refine zk_X9_loudestGrid_6 C _ v7 (fun H locs ls w hl => ?_) _ _ _ _ hc _ _ _ w (lv_sub hl [3, 2, 1, 0] rfl)
  clear hc
  refine lv_iload_n C.1 C.2.1 dX9_loudestGrid_72 rfl (lv_at hl 0 rfl) ?_
  exact zr_reti C w hr dX9_loudestGrid_73 (Option.some.inj h) rfl
set_option maxHeartbeats 4000000 in
set_option maxRecDepth 100000 in
theorem zk_X4_greatestSize_6_26 {p : Program} {l : Launch} {e : Env} {s : State} {m : MethodId} {args : Array Value} {below : List Frame} {meth : Method} {c : Code} {G : zg_T} {Q : State → Prop} (C : zx_C p s m args meth c G RX4 cX4_greatestSize 7) (S : zs_T) (f1 : Int32) (f2 : Int32) (f3 : Int32) (o4 : Int32) (kont : ∀ (H : Heap) (locs : List Loc) (ls : Array Slot), zg_W G S s H locs → lv_has ls 7 [(4, .int o4)] → W p l e zr_m_X4_greatestSize s m args below meth c H locs 0 0 Q (F0 m 47 ls [])) : ∀ (n : Nat) (x4 : Int32) (x5 : Int32), zl_2 (zb_X4_greatestSize_6 26 40 S f1 f2 f3) n x4 x5 = some o4 → ∀ (H : Heap) (locs : List Loc) (ls : Array Slot), zg_W G S s H locs → lv_has ls 7 [(0, .ref (zg_q G 26)), (1, .int f1), (2, .int f2), (3, .int f3), (4, .int x4), (5, .int x5)] → W p l e zr_m_X4_greatestSize s m args below meth c H locs 0 0 Q (F0 m 6 ls []) := by
  intro n
  induction n with
  | zero => intro x4 x5 h; cases h
  | succ n ih =>
    intro x4 x5 h H locs ls w hl
    replace h : zb_X4_greatestSize_6 26 40 S f1 f2 f3 (zl_2 (zb_X4_greatestSize_6 26 40 S f1 f2 f3) n) x4 x5 = some o4 := h
    generalize zl_2 (zb_X4_greatestSize_6 26 40 S f1 f2 f3) n = rec at ih h
    unfold zb_X4_greatestSize_6 at h
    refine lv_iload C.1 C.2.1 dX4_greatestSize_6 (lv_at hl 5 rfl) ?_
    refine lv_iload_n C.1 C.2.1 dX4_greatestSize_8 rfl (lv_at hl 3 rfl) ?_
    refine zr_ic_ge (tgt := 47) C dX4_greatestSize_9 (by decide) h (fun h => ?_) (fun h => ?_)
    · cases h
      exact kont _ _ _ w (lv_sub hl [4] rfl)
    · refine lv_aload_n C.1 C.2.1 dX4_greatestSize_12 rfl (lv_at hl 0 rfl) ?_
      refine lv_iload_n C.1 C.2.1 dX4_greatestSize_13 rfl (lv_at hl 1 rfl) ?_
      refine lv_iload_n C.1 C.2.1 dX4_greatestSize_14 rfl (lv_at hl 2 rfl) ?_
      refine lv_iload C.1 C.2.1 dX4_greatestSize_15 (lv_at hl 5 rfl) ?_
      refine lv_imul C.1 C.2.1 dX4_greatestSize_17 ?_
      refine lv_iadd C.1 C.2.1 dX4_greatestSize_18 ?_
      refine zr_iald C w 26 (zw_g26 G _) dX4_greatestSize_19 h (fun h => ?_)
      refine zr_callSi C w (As := [.int (S.1 26 (Int32.toNatClampNeg (f1 + (f2 * x5))))]) (zm_X4_size l G _ _ _ rfl) zm_c_X4_size zm_l_X4_16 zm_s_X4_size zm_0_X4 zm_d_X4_size ⟨rfl, rfl⟩ ⟨Nat.le_of_ble_eq_true rfl, Nat.le_of_ble_eq_true rfl⟩ hl.1 rfl rfl (Nat.le_of_ble_eq_true rfl) dX4_greatestSize_20 ⟨Nat.le_of_ble_eq_true rfl, Nat.le_of_ble_eq_true rfl⟩ (fun H locs w => ?_)
      refine zr_lti h (fun v1 h => ?_)
      refine lv_istore (lv' := [(6, .int v1), (0, .ref (zg_q G 26)), (1, .int f1), (2, .int f2), (3, .int f3), (4, .int x4), (5, .int x5)]) C.1 C.2.1 dX4_greatestSize_23 hl (by decide) rfl (fun ls hl => ?_)
      refine lv_iload C.1 C.2.1 dX4_greatestSize_25 (lv_at hl 0 rfl) ?_
      refine lv_iload C.1 C.2.1 dX4_greatestSize_27 (lv_at hl 5 rfl) ?_
      refine zr_ic_le (tgt := 37) C dX4_greatestSize_29 (by decide) h (fun h => ?_) (fun h => ?_)
      · refine lv_iload C.1 C.2.1 dX4_greatestSize_37 (lv_at hl 5 rfl) ?_
        refine lv_istore (lv' := [(4, .int x4), (6, .int v1), (0, .ref (zg_q G 26)), (1, .int f1), (2, .int f2), (3, .int f3), (5, .int x5)]) C.1 C.2.1 dX4_greatestSize_39 hl (by decide) rfl (fun ls hl => ?_)
        obtain ⟨v2, e_, h⟩ := zc_lt_x h
        refine lv_iinc (v := v2) (lv' := [(5, .int v2), (4, .int x4), (6, .int v1), (0, .ref (zg_q G 26)), (1, .int f1), (2, .int f2), (3, .int f3)]) C.1 C.2.1 dX4_greatestSize_41 hl (k := 6) rfl (by subst e_; rfl) (by decide) rfl (fun ls hl => ?_)
        clear e_
        refine lv_goto (tgt := 6) C.1 C.2.1 dX4_greatestSize_44 (by decide) ?_
        exact ih _ _ h _ _ _ w (lv_sub hl [3, 4, 5, 6, 1, 0] rfl)
      · refine lv_iload C.1 C.2.1 dX4_greatestSize_32 (lv_at hl 0 rfl) ?_
        refine lv_goto (tgt := 39) C.1 C.2.1 dX4_greatestSize_34 (by decide) ?_
        refine lv_istore (lv' := [(4, .int v1), (6, .int v1), (0, .ref (zg_q G 26)), (1, .int f1), (2, .int f2), (3, .int f3), (5, .int x5)]) C.1 C.2.1 dX4_greatestSize_39 hl (by decide) rfl (fun ls hl => ?_)
        obtain ⟨v3, e_, h⟩ := zc_lt_x h
        refine lv_iinc (v := v3) (lv' := [(5, .int v3), (4, .int v1), (6, .int v1), (0, .ref (zg_q G 26)), (1, .int f1), (2, .int f2), (3, .int f3)]) C.1 C.2.1 dX4_greatestSize_41 hl (k := 6) rfl (by subst e_; rfl) (by decide) rfl (fun ls hl => ?_)
        clear e_
        refine lv_goto (tgt := 6) C.1 C.2.1 dX4_greatestSize_44 (by decide) ?_
        exact ih _ _ h _ _ _ w (lv_sub hl [3, 4, 5, 6, 1, 0] rfl)
set_option maxHeartbeats 4000000 in
set_option maxRecDepth 100000 in
theorem zm_X4_greatestSize_26 (l : Launch) (G : zg_T) (S : zs_T) (a1 : Int32) (a2 : Int32) (a3 : Int32) (r : Int32) (h : zf_X4_greatestSize 26 40 S a1 a2 a3 = some r) : Met l yX4_greatestSize (Cond.code yX4_greatestSize cX4_greatestSize 7 (some .int) :: zt_G) zr_m_X4_greatestSize (va_Pc [.ref (zg_q G 26), .int a1, .int a2, .int a3] (zg_P G S)) (zg_Q G (some (.int r)) S) 0 0 (zg_A G) := by
  refine zx_met (by decide +kernel) (Nat.le_of_ble_eq_true rfl) (lv := [(0, .ref (zg_q G 26)), (1, .int a1), (2, .int a2), (3, .int a3)]) rfl ?_
  intro p e s m below meth c C hr w ls hl
  replace C : zx_C p s m _ meth c G RX4 cX4_greatestSize 7 := C
  unfold zf_X4_greatestSize at h
  refine lv_iconst (v := 0) C.1 C.2.1 dX4_greatestSize_0 (by decide) ?_
  refine lv_istore (lv' := [(4, .int (0 : Int32)), (0, .ref (zg_q G 26)), (1, .int a1), (2, .int a2), (3, .int a3)]) C.1 C.2.1 dX4_greatestSize_1 hl (by decide) rfl (fun ls hl => ?_)
  refine lv_iconst (v := 0) C.1 C.2.1 dX4_greatestSize_3 (by decide) ?_
  refine lv_istore (lv' := [(5, .int (0 : Int32)), (4, .int (0 : Int32)), (0, .ref (zg_q G 26)), (1, .int a1), (2, .int a2), (3, .int a3)]) C.1 C.2.1 dX4_greatestSize_4 hl (by decide) rfl (fun ls hl => ?_)
  obtain ⟨v4, hc, h⟩ := zc_b1_x h
  refine zk_X4_greatestSize_6_26 C _ a1 a2 a3 v4 (fun H locs ls w hl => ?_) _ _ _ hc _ _ _ w (lv_sub hl [2, 3, 4, 5, 1, 0] rfl)
  clear hc
  refine lv_iload C.1 C.2.1 dX4_greatestSize_47 (lv_at hl 0 rfl) ?_
  exact zr_reti C w hr dX4_greatestSize_49 (Option.some.inj h) rfl
