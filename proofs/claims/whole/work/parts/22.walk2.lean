set_option maxHeartbeats 4000000 in
set_option maxRecDepth 100000 in
theorem zk_X9_heightOf_4 {p : Program} {l : Launch} {e : Env} {s : State} {m : MethodId} {args : Array Value} {below : List Frame} {meth : Method} {c : Code} {G : zg_T} {Q : State → Prop} (C : zx_C p s m args meth c G RX9 cX9_heightOf 3) (S : zs_T) (f0 : Int32) (o1 : Int32) (kont : ∀ (H : Heap) (locs : List Loc) (ls : Array Slot), zg_W G S s H locs → lv_has ls 3 [(0, .int f0), (1, .int o1)] → W p l e zr_m_X9_heightOf s m args below meth c H locs 0 0 Q (F0 m 32 ls [])) : ∀ (n : Nat) (x1 : Int32) (x2 : Int32), zl_2 (zb_X9_heightOf_4 f0) n x1 x2 = some o1 → ∀ (H : Heap) (locs : List Loc) (ls : Array Slot), zg_W G S s H locs → lv_has ls 3 [(0, .int f0), (1, .int x1), (2, .int x2)] → W p l e zr_m_X9_heightOf s m args below meth c H locs 0 0 Q (F0 m 4 ls []) := by
  intro n
  induction n with
  | zero => intro x1 x2 h; cases h
  | succ n ih =>
    intro x1 x2 h H locs ls w hl
    replace h : zb_X9_heightOf_4 f0 (zl_2 (zb_X9_heightOf_4 f0) n) x1 x2 = some o1 := h
    generalize zl_2 (zb_X9_heightOf_4 f0) n = rec at ih h
    unfold zb_X9_heightOf_4 at h
    refine lv_iload_n C.1 C.2.1 dX9_heightOf_4 rfl (lv_at hl 2 rfl) ?_
    refine lv_iconst (v := 5) C.1 C.2.1 dX9_heightOf_5 (by decide) ?_
    refine zr_ic_gt (tgt := 32) C dX9_heightOf_6 (by decide) h (fun h => ?_) (fun h => ?_)
    · cases h
      exact kont _ _ _ w (lv_sub hl [0, 1] rfl)
    · refine lv_iload_n C.1 C.2.1 dX9_heightOf_9 rfl (lv_at hl 1 rfl) ?_
      refine lv_iload_n C.1 C.2.1 dX9_heightOf_10 rfl (lv_at hl 0 rfl) ?_
      refine lv_bipush (v := 9) C.1 C.2.1 dX9_heightOf_11 (by decide) ?_
      refine lv_iload_n C.1 C.2.1 dX9_heightOf_13 rfl (lv_at hl 2 rfl) ?_
      refine lv_iadd C.1 C.2.1 dX9_heightOf_14 ?_
      refine lv_ishr C.1 C.2.1 dX9_heightOf_15 ?_
      refine zr_if_le (tgt := 23) C dX9_heightOf_16 (by decide) h (fun h => ?_) (fun h => ?_)
      · refine lv_iconst (v := 0) C.1 C.2.1 dX9_heightOf_23 (by decide) ?_
        refine lv_iadd C.1 C.2.1 dX9_heightOf_24 ?_
        refine zr_lti h (fun v1 h => ?_)
        refine lv_istore_n (lv' := [(1, .int v1), (0, .int f0), (2, .int x2)]) C.1 C.2.1 dX9_heightOf_25 rfl hl (by decide) rfl (fun ls hl => ?_)
        obtain ⟨v2, e_, h⟩ := zc_lt_x h
        refine lv_iinc (v := v2) (lv' := [(2, .int v2), (1, .int v1), (0, .int f0)]) C.1 C.2.1 dX9_heightOf_26 hl (k := 2) rfl (by subst e_; rfl) (by decide) rfl (fun ls hl => ?_)
        clear e_
        refine lv_goto (tgt := 4) C.1 C.2.1 dX9_heightOf_29 (by decide) ?_
        exact ih _ _ h _ _ _ w (lv_sub hl [2, 1, 0] rfl)
      · refine lv_iconst (v := 1) C.1 C.2.1 dX9_heightOf_19 (by decide) ?_
        refine lv_goto (tgt := 24) C.1 C.2.1 dX9_heightOf_20 (by decide) ?_
        refine lv_iadd C.1 C.2.1 dX9_heightOf_24 ?_
        refine zr_lti h (fun v3 h => ?_)
        refine lv_istore_n (lv' := [(1, .int v3), (0, .int f0), (2, .int x2)]) C.1 C.2.1 dX9_heightOf_25 rfl hl (by decide) rfl (fun ls hl => ?_)
        obtain ⟨v4, e_, h⟩ := zc_lt_x h
        refine lv_iinc (v := v4) (lv' := [(2, .int v4), (1, .int v3), (0, .int f0)]) C.1 C.2.1 dX9_heightOf_26 hl (k := 2) rfl (by subst e_; rfl) (by decide) rfl (fun ls hl => ?_)
        clear e_
        refine lv_goto (tgt := 4) C.1 C.2.1 dX9_heightOf_29 (by decide) ?_
        exact ih _ _ h _ _ _ w (lv_sub hl [2, 1, 0] rfl)
set_option maxHeartbeats 4000000 in
set_option maxRecDepth 100000 in
theorem zm_X9_heightOf (l : Launch) (G : zg_T) (S : zs_T) (a1 : Int32) (r : Int32) (h : zf_X9_heightOf a1 = some r) : Met l yX9_heightOf (Cond.code yX9_heightOf cX9_heightOf 3 (some .int) :: zt_G) zr_m_X9_heightOf (va_Pc [.int a1] (zg_P G S)) (zg_Q G (some (.int r)) S) 0 0 (zg_A G) := by
  refine zx_met (by decide +kernel) (Nat.le_of_ble_eq_true rfl) (lv := [(0, .int a1)]) rfl ?_
  intro p e s m below meth c C hr w ls hl
  replace C : zx_C p s m _ meth c G RX9 cX9_heightOf 3 := C
  unfold zf_X9_heightOf at h
  refine lv_iconst (v := 0) C.1 C.2.1 dX9_heightOf_0 (by decide) ?_
  refine lv_istore_n (lv' := [(1, .int (0 : Int32)), (0, .int a1)]) C.1 C.2.1 dX9_heightOf_1 rfl hl (by decide) rfl (fun ls hl => ?_)
  refine lv_iconst (v := 0) C.1 C.2.1 dX9_heightOf_2 (by decide) ?_
  refine lv_istore_n (lv' := [(2, .int (0 : Int32)), (1, .int (0 : Int32)), (0, .int a1)]) C.1 C.2.1 dX9_heightOf_3 rfl hl (by decide) rfl (fun ls hl => ?_)
  obtain ⟨v5, hc, h⟩ := zc_b1_x h
  refine zk_X9_heightOf_4 C _ a1 v5 (fun H locs ls w hl => ?_) _ _ _ hc _ _ _ w (lv_sub hl [2, 1, 0] rfl)
  clear hc
  refine lv_iload_n C.1 C.2.1 dX9_heightOf_32 rfl (lv_at hl 0 rfl) ?_
  refine lv_iload_n C.1 C.2.1 dX9_heightOf_33 rfl (lv_at hl 1 rfl) ?_
  refine lv_iconst (v := 5) C.1 C.2.1 dX9_heightOf_34 (by decide) ?_
  refine lv_iadd C.1 C.2.1 dX9_heightOf_35 ?_
  refine lv_ishr C.1 C.2.1 dX9_heightOf_36 ?_
  refine lv_bipush (v := 8) C.1 C.2.1 dX9_heightOf_37 (by decide) ?_
  refine lv_iload_n C.1 C.2.1 dX9_heightOf_39 rfl (lv_at hl 1 rfl) ?_
  refine lv_imul C.1 C.2.1 dX9_heightOf_40 ?_
  refine lv_iadd C.1 C.2.1 dX9_heightOf_41 ?_
  exact zr_reti C w hr dX9_heightOf_42 (Option.some.inj h) rfl
set_option maxHeartbeats 4000000 in
set_option maxRecDepth 100000 in
theorem zk_X9_thin_3 {p : Program} {l : Launch} {e : Env} {s : State} {m : MethodId} {args : Array Value} {below : List Frame} {meth : Method} {c : Code} {G : zg_T} {Q : State → Prop} (C : zx_C p s m args meth c G RX9 cX9_thin 5) (f2 : Int32) (oS : zs_T) (kont : ∀ (H : Heap) (locs : List Loc) (ls : Array Slot), zg_W G oS s H locs → lv_has ls 5 [(0, .ref (zg_q G 24))] → W p l e zr_m_X9_thin s m args below meth c H locs 0 0 Q (F0 m 42 ls [])) : ∀ (n : Nat) (S : zs_T) (x4 : Int32), zl_2 (zb_X9_thin_3 f2) n S x4 = some oS → ∀ (H : Heap) (locs : List Loc) (ls : Array Slot), zg_W G S s H locs → lv_has ls 5 [(0, .ref (zg_q G 24)), (1, .ref (zg_q G 6)), (2, .int f2), (3, .ref (zg_q G 21)), (4, .int x4)] → W p l e zr_m_X9_thin s m args below meth c H locs 0 0 Q (F0 m 3 ls []) := by
  intro n
  induction n with
  | zero => intro S x4 h; cases h
  | succ n ih =>
    intro S x4 h H locs ls w hl
    replace h : zb_X9_thin_3 f2 (zl_2 (zb_X9_thin_3 f2) n) S x4 = some oS := h
    generalize zl_2 (zb_X9_thin_3 f2) n = rec at ih h
    unfold zb_X9_thin_3 at h
    refine lv_iload C.1 C.2.1 dX9_thin_3 (lv_at hl 4 rfl) ?_
    refine lv_bipush (v := 40) C.1 C.2.1 dX9_thin_5 (by decide) ?_
    refine zr_ic_ge (tgt := 42) C dX9_thin_7 (by decide) h (fun h => ?_) (fun h => ?_)
    · cases h
      exact kont _ _ _ w (lv_sub hl [0] rfl)
    · refine lv_aload_n C.1 C.2.1 dX9_thin_10 rfl (lv_at hl 0 rfl) ?_
      refine zr_get C w 24 zm_w_X9 (zw_g24 G _) rfl 0 (by decide) zm_f_X9_11 rfl dX9_thin_11 ?_
      refine lv_iconst (v := 5) C.1 C.2.1 dX9_thin_14 (by decide) ?_
      refine lv_iload C.1 C.2.1 dX9_thin_15 (lv_at hl 4 rfl) ?_
      refine lv_iadd C.1 C.2.1 dX9_thin_17 ?_
      refine lv_aload_n C.1 C.2.1 dX9_thin_18 rfl (lv_at hl 1 rfl) ?_
      refine lv_bipush (v := 40) C.1 C.2.1 dX9_thin_19 (by decide) ?_
      refine lv_iload_n C.1 C.2.1 dX9_thin_21 rfl (lv_at hl 2 rfl) ?_
      refine lv_imul C.1 C.2.1 dX9_thin_22 ?_
      refine lv_iload C.1 C.2.1 dX9_thin_23 (lv_at hl 4 rfl) ?_
      refine lv_iadd C.1 C.2.1 dX9_thin_25 ?_
      refine zr_iald C w 6 (zw_g6 G _) dX9_thin_26 h (fun h => ?_)
      refine lv_aload_n C.1 C.2.1 dX9_thin_27 rfl (lv_at hl 3 rfl) ?_
      refine lv_iload C.1 C.2.1 dX9_thin_28 (lv_at hl 4 rfl) ?_
      refine zr_iald C w 21 (zw_g21 G _) dX9_thin_30 h (fun h => ?_)
      refine lv_isub C.1 C.2.1 dX9_thin_31 ?_
      refine zr_callSi C w (As := [.int ((S.1 6 (Int32.toNatClampNeg (((40 : Int32) * f2) + x4))) - (S.1 21 (Int32.toNatClampNeg x4)))]) (zm_X4_cut l G _ _ _ rfl) zm_c_X4_cut zm_l_X9_18 zm_s_X4_cut zm_0_X4 zm_d_X4_cut ⟨rfl, rfl⟩ ⟨Nat.le_of_ble_eq_true rfl, Nat.le_of_ble_eq_true rfl⟩ hl.1 rfl rfl (Nat.le_of_ble_eq_true rfl) dX9_thin_32 ⟨Nat.le_of_ble_eq_true rfl, Nat.le_of_ble_eq_true rfl⟩ (fun H locs w => ?_)
      refine zr_lti h (fun v1 h => ?_)
      refine zr_iast C w 25 (zw_g25 G _) (zw_s25 G _) dX9_thin_35 h (fun S2 H locs w h => ?_)
      obtain ⟨v3, e_, h⟩ := zc_lt_x h
      refine lv_iinc (v := v3) (lv' := [(4, .int v3), (0, .ref (zg_q G 24)), (1, .ref (zg_q G 6)), (2, .int f2), (3, .ref (zg_q G 21))]) C.1 C.2.1 dX9_thin_36 hl (k := 4) rfl (by subst e_; rfl) (by decide) rfl (fun ls hl => ?_)
      clear e_
      refine lv_goto (tgt := 3) C.1 C.2.1 dX9_thin_39 (by decide) ?_
      exact ih _ _ h _ _ _ w (lv_sub hl [1, 2, 3, 4, 0] rfl)
set_option maxHeartbeats 4000000 in
set_option maxRecDepth 100000 in
theorem zk_X9_thin_45 {p : Program} {l : Launch} {e : Env} {s : State} {m : MethodId} {args : Array Value} {below : List Frame} {meth : Method} {c : Code} {G : zg_T} {Q : State → Prop} (C : zx_C p s m args meth c G RX9 cX9_thin 5) (oS : zs_T) (kont : ∀ (H : Heap) (locs : List Loc) (ls : Array Slot), zg_W G oS s H locs → lv_has ls 5 [(0, .ref (zg_q G 24))] → W p l e zr_m_X9_thin s m args below meth c H locs 0 0 Q (F0 m 71 ls [])) : ∀ (n : Nat) (S : zs_T) (x4 : Int32), zl_2 (zb_X9_thin_45) n S x4 = some oS → ∀ (H : Heap) (locs : List Loc) (ls : Array Slot), zg_W G S s H locs → lv_has ls 5 [(0, .ref (zg_q G 24)), (4, .int x4)] → W p l e zr_m_X9_thin s m args below meth c H locs 0 0 Q (F0 m 45 ls []) := by
  intro n
  induction n with
  | zero => intro S x4 h; cases h
  | succ n ih =>
    intro S x4 h H locs ls w hl
    replace h : zb_X9_thin_45 (zl_2 (zb_X9_thin_45) n) S x4 = some oS := h
    generalize zl_2 (zb_X9_thin_45) n = rec at ih h
    unfold zb_X9_thin_45 at h
    refine lv_iload C.1 C.2.1 dX9_thin_45 (lv_at hl 1 rfl) ?_
    refine lv_bipush (v := 40) C.1 C.2.1 dX9_thin_47 (by decide) ?_
    refine zr_ic_ge (tgt := 71) C dX9_thin_49 (by decide) h (fun h => ?_) (fun h => ?_)
    · cases h
      exact kont _ _ _ w (lv_sub hl [0] rfl)
    · refine lv_aload_n C.1 C.2.1 dX9_thin_52 rfl (lv_at hl 0 rfl) ?_
      refine zr_get C w 24 zm_w_X9 (zw_g24 G _) rfl 1 (by decide) zm_f_X9_15 rfl dX9_thin_53 ?_
      refine lv_iload C.1 C.2.1 dX9_thin_56 (lv_at hl 1 rfl) ?_
      refine lv_aload_n C.1 C.2.1 dX9_thin_58 rfl (lv_at hl 0 rfl) ?_
      refine lv_iload C.1 C.2.1 dX9_thin_59 (lv_at hl 1 rfl) ?_
      obtain ⟨v5, hc, h⟩ := zc_b1_x h
      refine zr_callVi C w 24 (zw_g24 G _) rfl (As := [.int x4]) (zm_X9_filtered l G _ _ _ hc) zm_c_X9_filtered zm_l_X9_24 zm_i_X9_filtered zm_e_X9_filtered zm_0_X9 zm_d_X9_filtered ⟨rfl, rfl⟩ ⟨Nat.le_of_ble_eq_true rfl, Nat.le_of_ble_eq_true rfl⟩ hl.1 rfl rfl (Nat.le_of_ble_eq_true rfl) dX9_thin_61 ⟨Nat.le_of_ble_eq_true rfl, Nat.le_of_ble_eq_true rfl⟩ (fun H locs w => ?_)
      clear hc
      refine zr_iast C w 26 (zw_g26 G _) (zw_s26 G _) dX9_thin_64 h (fun S6 H locs w h => ?_)
      obtain ⟨v7, e_, h⟩ := zc_lt_x h
      refine lv_iinc (v := v7) (lv' := [(4, .int v7), (0, .ref (zg_q G 24))]) C.1 C.2.1 dX9_thin_65 hl (k := 1) rfl (by subst e_; rfl) (by decide) rfl (fun ls hl => ?_)
      clear e_
      refine lv_goto (tgt := 45) C.1 C.2.1 dX9_thin_68 (by decide) ?_
      exact ih _ _ h _ _ _ w (lv_sub hl [1, 0] rfl)
set_option maxHeartbeats 4000000 in
set_option maxRecDepth 100000 in
theorem zm_X9_thin (l : Launch) (G : zg_T) (S : zs_T) (a1 : Int32) (S1 : zs_T) (h : zf_X9_thin S a1 = some S1) : Met l yX9_thin (Cond.code yX9_thin cX9_thin 5 none :: zt_G) zr_m_X9_thin (va_Pc [.ref (zg_q G 24), .ref (zg_q G 6), .int a1, .ref (zg_q G 21)] (zg_P G S)) (zg_Q G none S1) 0 0 (zg_A G) := by
  refine zx_met (by decide +kernel) (Nat.le_of_ble_eq_true rfl) (lv := [(0, .ref (zg_q G 24)), (1, .ref (zg_q G 6)), (2, .int a1), (3, .ref (zg_q G 21))]) rfl ?_
  intro p e s m below meth c C hr w ls hl
  replace C : zx_C p s m _ meth c G RX9 cX9_thin 5 := C
  unfold zf_X9_thin at h
  refine lv_iconst (v := 0) C.1 C.2.1 dX9_thin_0 (by decide) ?_
  refine lv_istore (lv' := [(4, .int (0 : Int32)), (0, .ref (zg_q G 24)), (1, .ref (zg_q G 6)), (2, .int a1), (3, .ref (zg_q G 21))]) C.1 C.2.1 dX9_thin_1 hl (by decide) rfl (fun ls hl => ?_)
  obtain ⟨S4, hc, h⟩ := zc_b1_x h
  refine zk_X9_thin_3 C a1 S4 (fun H locs ls w hl => ?_) _ _ _ hc _ _ _ w (lv_sub hl [1, 2, 3, 4, 0] rfl)
  clear hc
  refine lv_iconst (v := 0) C.1 C.2.1 dX9_thin_42 (by decide) ?_
  refine lv_istore (lv' := [(4, .int (0 : Int32)), (0, .ref (zg_q G 24))]) C.1 C.2.1 dX9_thin_43 hl (by decide) rfl (fun ls hl => ?_)
  obtain ⟨S8, hc, h⟩ := zc_b1_x h
  refine zk_X9_thin_45 C S8 (fun H locs ls w hl => ?_) _ _ _ hc _ _ _ w (lv_sub hl [1, 0] rfl)
  clear hc
  refine lv_aload_n C.1 C.2.1 dX9_thin_71 rfl (lv_at hl 0 rfl) ?_
  refine lv_aload_n C.1 C.2.1 dX9_thin_72 rfl (lv_at hl 0 rfl) ?_
  obtain ⟨v9, hc, h⟩ := zc_b1_x h
  refine zr_callVi C w 24 (zw_g24 G _) rfl (As := []) (zm_X9_loudestGrid l G _ _ hc) zm_c_X9_loudestGrid zm_l_X9_27 zm_i_X9_loudestGrid zm_e_X9_loudestGrid zm_0_X9 zm_d_X9_loudestGrid ⟨rfl, rfl⟩ ⟨Nat.le_of_ble_eq_true rfl, Nat.le_of_ble_eq_true rfl⟩ hl.1 rfl rfl (Nat.le_of_ble_eq_true rfl) dX9_thin_73 ⟨Nat.le_of_ble_eq_true rfl, Nat.le_of_ble_eq_true rfl⟩ (fun H locs w => ?_)
  clear hc
  refine zr_put C w 24 zm_w_X9 tyX9 tyX9_ok nmX9 (zw_g24 G _) rfl 2 (by decide) zm_f_X9_31 rfl (ty := .int) (by decide +kernel) rfl rfl (Nat.le_of_ble_eq_true rfl) (zw_f24_2 G _ _) dX9_thin_76 h (fun S10 H locs w h => ?_)
  refine lv_aload_n C.1 C.2.1 dX9_thin_79 rfl (lv_at hl 0 rfl) ?_
  refine lv_aload_n C.1 C.2.1 dX9_thin_80 rfl (lv_at hl 0 rfl) ?_
  refine zr_get C w 24 zm_w_X9 (zw_g24 G _) rfl 1 (by decide) zm_f_X9_15 rfl dX9_thin_81 ?_
  refine lv_aload_n C.1 C.2.1 dX9_thin_84 rfl (lv_at hl 0 rfl) ?_
  refine zr_get C w 24 zm_w_X9 (zw_g24 G _) rfl 2 (by decide) zm_f_X9_31 rfl dX9_thin_85 ?_
  refine lv_iconst (v := 3) C.1 C.2.1 dX9_thin_88 (by decide) ?_
  refine lv_bipush (v := 13) C.1 C.2.1 dX9_thin_89 (by decide) ?_
  obtain ⟨v11, hc, h⟩ := zc_b1_x h
  refine zr_callSi C w (As := [.ref (zg_q G 26), .int (S10.1 24 2), .int (3 : Int32), .int (13 : Int32)]) (zm_X4_greatestSize_26 l G _ _ _ _ _ hc) zm_c_X4_greatestSize zm_l_X9_35 zm_s_X4_greatestSize zm_0_X4 zm_d_X4_greatestSize ⟨rfl, rfl⟩ ⟨Nat.le_of_ble_eq_true rfl, Nat.le_of_ble_eq_true rfl⟩ hl.1 rfl rfl (Nat.le_of_ble_eq_true rfl) dX9_thin_91 ⟨Nat.le_of_ble_eq_true rfl, Nat.le_of_ble_eq_true rfl⟩ (fun H locs w => ?_)
  clear hc
  obtain ⟨v12, hc, h⟩ := zc_b1_x h
  refine zr_callSi C w (As := [.int v11]) (zm_X9_heightOf l G _ _ _ hc) zm_c_X9_heightOf zm_l_X9_39 zm_s_X9_heightOf zm_0_X9 zm_d_X9_heightOf ⟨rfl, rfl⟩ ⟨Nat.le_of_ble_eq_true rfl, Nat.le_of_ble_eq_true rfl⟩ hl.1 rfl rfl (Nat.le_of_ble_eq_true rfl) dX9_thin_94 ⟨Nat.le_of_ble_eq_true rfl, Nat.le_of_ble_eq_true rfl⟩ (fun H locs w => ?_)
  clear hc
  refine zr_put C w 24 zm_w_X9 tyX9 tyX9_ok nmX9 (zw_g24 G _) rfl 3 (by decide) zm_f_X9_42 rfl (ty := .int) (by decide +kernel) rfl rfl (Nat.le_of_ble_eq_true rfl) (zw_f24_3 G _ _) dX9_thin_97 h (fun S13 H locs w h => ?_)
  exact zr_retv C w hr dX9_thin_100 (Option.some.inj h)
set_option maxHeartbeats 4000000 in
set_option maxRecDepth 100000 in
theorem zk_X7_scaleBy_36_27 {p : Program} {l : Launch} {e : Env} {s : State} {m : MethodId} {args : Array Value} {below : List Frame} {meth : Method} {c : Code} {G : zg_T} {Q : State → Prop} (C : zx_C p s m args meth c G RX7 cX7_scaleBy 5) (S : zs_T) (o2 : Int32) (o3 : Int32) (kont : ∀ (H : Heap) (locs : List Loc) (ls : Array Slot), zg_W G S s H locs → lv_has ls 5 [(0, .ref (zg_q G 27)), (2, .int o2), (3, .int o3)] → W p l e zr_m_X7_scaleBy s m args below meth c H locs 0 0 Q (F0 m 63 ls [])) : ∀ (n : Nat) (x2 : Int32) (x3 : Int32) (x4 : Int32), zl_3 (zb_X7_scaleBy_36 27 S) n x2 x3 x4 = some (o2, o3) → ∀ (H : Heap) (locs : List Loc) (ls : Array Slot), zg_W G S s H locs → lv_has ls 5 [(0, .ref (zg_q G 27)), (2, .int x2), (3, .int x3), (4, .int x4)] → W p l e zr_m_X7_scaleBy s m args below meth c H locs 0 0 Q (F0 m 36 ls []) := by
  intro n
  induction n with
  | zero => intro x2 x3 x4 h; cases h
  | succ n ih =>
    intro x2 x3 x4 h H locs ls w hl
    replace h : zb_X7_scaleBy_36 27 S (zl_3 (zb_X7_scaleBy_36 27 S) n) x2 x3 x4 = some (o2, o3) := h
    generalize zl_3 (zb_X7_scaleBy_36 27 S) n = rec at ih h
    unfold zb_X7_scaleBy_36 at h
    refine lv_iload C.1 C.2.1 dX7_scaleBy_36 (lv_at hl 3 rfl) ?_
    refine lv_iconst (v := 3) C.1 C.2.1 dX7_scaleBy_38 (by decide) ?_
    refine zr_ic_ge (tgt := 63) C dX7_scaleBy_39 (by decide) h (fun h => ?_) (fun h => ?_)
    · cases h
      exact kont _ _ _ w (lv_sub hl [0, 1, 2] rfl)
    · refine lv_iload_n C.1 C.2.1 dX7_scaleBy_42 rfl (lv_at hl 2 rfl) ?_
      refine lv_bipush (v := 7) C.1 C.2.1 dX7_scaleBy_43 (by decide) ?_
      refine zr_ic_gt (tgt := 63) C dX7_scaleBy_45 (by decide) h (fun h => ?_) (fun h => ?_)
      · cases h
        exact kont _ _ _ w (lv_sub hl [0, 1, 2] rfl)
      · refine lv_iconst (v := 2) C.1 C.2.1 dX7_scaleBy_48 (by decide) ?_
        refine lv_iload_n C.1 C.2.1 dX7_scaleBy_49 rfl (lv_at hl 2 rfl) ?_
        refine lv_imul C.1 C.2.1 dX7_scaleBy_50 ?_
        refine lv_iconst (v := 1) C.1 C.2.1 dX7_scaleBy_51 (by decide) ?_
        refine lv_iadd C.1 C.2.1 dX7_scaleBy_52 ?_
        refine zr_lti h (fun v2 h => ?_)
        refine lv_istore_n (lv' := [(3, .int v2), (0, .ref (zg_q G 27)), (2, .int x2), (4, .int x4)]) C.1 C.2.1 dX7_scaleBy_53 rfl hl (by decide) rfl (fun ls hl => ?_)
        obtain ⟨v3, e_, h⟩ := zc_lt_x h
        refine lv_iinc (v := v3) (lv' := [(2, .int v3), (3, .int v2), (0, .ref (zg_q G 27)), (4, .int x4)]) C.1 C.2.1 dX7_scaleBy_54 hl (k := 2) rfl (by subst e_; rfl) (by decide) rfl (fun ls hl => ?_)
        clear e_
        obtain ⟨v4, e_, h⟩ := zc_lt_x h
        refine lv_iinc (v := v4) (lv' := [(4, .int v4), (2, .int v3), (3, .int v2), (0, .ref (zg_q G 27))]) C.1 C.2.1 dX7_scaleBy_57 hl (k := 3) rfl (by subst e_; rfl) (by decide) rfl (fun ls hl => ?_)
        clear e_
        refine lv_goto (tgt := 36) C.1 C.2.1 dX7_scaleBy_60 (by decide) ?_
        exact ih _ _ _ h _ _ _ w (lv_sub hl [3, 1, 2, 0] rfl)
set_option maxHeartbeats 4000000 in
set_option maxRecDepth 100000 in
theorem zq_X7_scaleBy_63_27 {p : Program} {l : Launch} {e : Env} {s : State} {m : MethodId} {args : Array Value} {below : List Frame} {meth : Method} {c : Code} {G : zg_T} (hr : meth.sig.returnType = none) (C : zx_C p s m args meth c G RX7 cX7_scaleBy 5) (S1 : zs_T) (S : zs_T) (y2 : Int32) (y3 : Int32) (h : zj_X7_scaleBy_63 27 S y2 y3 = some S1) (H : Heap) (locs : List Loc) (ls : Array Slot) (w : zg_W G S s H locs) (hl : lv_has ls 5 [(0, .ref (zg_q G 27)), (2, .int y2), (3, .int y3)]) : W p l e zr_m_X7_scaleBy s m args below meth c H locs 0 0 (MQ below (zg_Q G none S1) args s 0 0 (zg_A G)) (F0 m 63 ls []) := by
  unfold zj_X7_scaleBy_63 at h
  refine lv_aload_n C.1 C.2.1 dX7_scaleBy_63 rfl (lv_at hl 0 rfl) ?_
  refine lv_bipush (v := 6) C.1 C.2.1 dX7_scaleBy_64 (by decide) ?_
  refine lv_iload_n C.1 C.2.1 dX7_scaleBy_66 rfl (lv_at hl 1 rfl) ?_
  refine lv_isub C.1 C.2.1 dX7_scaleBy_67 ?_
  refine zr_put C w 27 zm_w_X7 tyX7 tyX7_ok nmX7 (zw_g27 G _) rfl 1 (by decide) zm_f_X7_15 rfl (ty := .int) (by decide +kernel) rfl rfl (Nat.le_of_ble_eq_true rfl) (zw_f27_1 G _ _) dX7_scaleBy_68 h (fun S7 H locs w h => ?_)
  refine lv_aload_n C.1 C.2.1 dX7_scaleBy_71 rfl (lv_at hl 0 rfl) ?_
  refine lv_iload_n C.1 C.2.1 dX7_scaleBy_72 rfl (lv_at hl 2 rfl) ?_
  refine lv_bipush (v := 8) C.1 C.2.1 dX7_scaleBy_73 (by decide) ?_
  refine lv_isub C.1 C.2.1 dX7_scaleBy_75 ?_
  refine zr_put C w 27 zm_w_X7 tyX7 tyX7_ok nmX7 (zw_g27 G _) rfl 2 (by decide) zm_f_X7_19 rfl (ty := .int) (by decide +kernel) rfl rfl (Nat.le_of_ble_eq_true rfl) (zw_f27_2 G _ _) dX7_scaleBy_76 h (fun S8 H locs w h => ?_)
  exact zr_retv C w hr dX7_scaleBy_79 (Option.some.inj h)
set_option maxHeartbeats 4000000 in
set_option maxRecDepth 100000 in
theorem zq_X7_scaleBy_33_27 {p : Program} {l : Launch} {e : Env} {s : State} {m : MethodId} {args : Array Value} {below : List Frame} {meth : Method} {c : Code} {G : zg_T} (hr : meth.sig.returnType = none) (C : zx_C p s m args meth c G RX7 cX7_scaleBy 5) (S1 : zs_T) (S : zs_T) (y2 : Int32) (y3 : Int32) (h : zj_X7_scaleBy_33 27 S y2 y3 = some S1) (H : Heap) (locs : List Loc) (ls : Array Slot) (w : zg_W G S s H locs) (hl : lv_has ls 5 [(0, .ref (zg_q G 27)), (2, .int y2), (3, .int y3)]) : W p l e zr_m_X7_scaleBy s m args below meth c H locs 0 0 (MQ below (zg_Q G none S1) args s 0 0 (zg_A G)) (F0 m 33 ls []) := by
  unfold zj_X7_scaleBy_33 at h
  refine lv_iconst (v := 0) C.1 C.2.1 dX7_scaleBy_33 (by decide) ?_
  refine lv_istore (lv' := [(4, .int (0 : Int32)), (0, .ref (zg_q G 27)), (2, .int y2), (3, .int y3)]) C.1 C.2.1 dX7_scaleBy_34 hl (by decide) rfl (fun ls hl => ?_)
  obtain ⟨v5, v6, hc, h⟩ := zc_b2_x h
  refine zk_X7_scaleBy_36_27 C _ v5 v6 (fun H locs ls w hl => ?_) _ _ _ _ hc _ _ _ w (lv_sub hl [1, 2, 3, 0] rfl)
  clear hc
  exact zq_X7_scaleBy_63_27 hr C _ _ _ _ h _ _ _ w (lv_sub hl [0, 1, 2] rfl)
set_option maxHeartbeats 4000000 in
set_option maxRecDepth 100000 in
theorem zq_X7_scaleBy_15_27 {p : Program} {l : Launch} {e : Env} {s : State} {m : MethodId} {args : Array Value} {below : List Frame} {meth : Method} {c : Code} {G : zg_T} (hr : meth.sig.returnType = none) (C : zx_C p s m args meth c G RX7 cX7_scaleBy 5) (S1 : zs_T) (S : zs_T) (y1 : Int32) (z0 : Int32) (h : zj_X7_scaleBy_15 27 S y1 z0 = some S1) (H : Heap) (locs : List Loc) (ls : Array Slot) (w : zg_W G S s H locs) (hl : lv_has ls 5 [(0, .ref (zg_q G 27)), (1, .int y1)]) : W p l e zr_m_X7_scaleBy s m args below meth c H locs 0 0 (MQ below (zg_Q G none S1) args s 0 0 (zg_A G)) (F0 m 15 ls [.int z0]) := by
  unfold zj_X7_scaleBy_15 at h
  refine lv_istore_n (lv' := [(2, .int z0), (0, .ref (zg_q G 27)), (1, .int y1)]) C.1 C.2.1 dX7_scaleBy_15 rfl hl (by decide) rfl (fun ls hl => ?_)
  refine lv_iload_n C.1 C.2.1 dX7_scaleBy_16 rfl (lv_at hl 2 rfl) ?_
  refine lv_bipush (v := 8) C.1 C.2.1 dX7_scaleBy_17 (by decide) ?_
  refine lv_iload_n C.1 C.2.1 dX7_scaleBy_19 rfl (lv_at hl 0 rfl) ?_
  refine lv_imul C.1 C.2.1 dX7_scaleBy_20 ?_
  refine lv_isub C.1 C.2.1 dX7_scaleBy_21 ?_
  refine zr_lti h (fun v1 h => ?_)
  refine lv_istore_n (lv' := [(3, .int v1), (2, .int z0), (0, .ref (zg_q G 27)), (1, .int y1)]) C.1 C.2.1 dX7_scaleBy_22 rfl hl (by decide) rfl (fun ls hl => ?_)
  refine lv_iload_n C.1 C.2.1 dX7_scaleBy_23 rfl (lv_at hl 0 rfl) ?_
  refine zr_if_ne (tgt := 33) C dX7_scaleBy_24 (by decide) h (fun h => ?_) (fun h => ?_)
  · exact zq_X7_scaleBy_33_27 hr C _ _ _ _ h _ _ _ w (lv_sub hl [2, 1, 0] rfl)
  · refine lv_bipush (v := -4) C.1 C.2.1 dX7_scaleBy_27 (by decide) ?_
    refine lv_istore_n (lv' := [(2, .int (-4 : Int32)), (3, .int v1), (0, .ref (zg_q G 27)), (1, .int y1)]) C.1 C.2.1 dX7_scaleBy_29 rfl hl (by decide) rfl (fun ls hl => ?_)
    refine lv_bipush (v := 15) C.1 C.2.1 dX7_scaleBy_30 (by decide) ?_
    refine lv_istore_n (lv' := [(3, .int (15 : Int32)), (2, .int (-4 : Int32)), (0, .ref (zg_q G 27)), (1, .int y1)]) C.1 C.2.1 dX7_scaleBy_32 rfl hl (by decide) rfl (fun ls hl => ?_)
    exact zq_X7_scaleBy_33_27 hr C _ _ _ _ h _ _ _ w (lv_sub hl [2, 1, 0] rfl)
set_option maxHeartbeats 4000000 in
set_option maxRecDepth 100000 in
theorem zm_X7_scaleBy_27 (l : Launch) (G : zg_T) (S : zs_T) (a1 : Int32) (S1 : zs_T) (h : zf_X7_scaleBy 27 S a1 = some S1) : Met l yX7_scaleBy (Cond.code yX7_scaleBy cX7_scaleBy 5 none :: zt_G) zr_m_X7_scaleBy (va_Pc [.ref (zg_q G 27), .int a1] (zg_P G S)) (zg_Q G none S1) 0 0 (zg_A G) := by
  refine zx_met (by decide +kernel) (Nat.le_of_ble_eq_true rfl) (lv := [(0, .ref (zg_q G 27)), (1, .int a1)]) rfl ?_
  intro p e s m below meth c C hr w ls hl
  replace C : zx_C p s m _ meth c G RX7 cX7_scaleBy 5 := C
  unfold zf_X7_scaleBy at h
  refine lv_iload_n C.1 C.2.1 dX7_scaleBy_0 rfl (lv_at hl 1 rfl) ?_
  refine lv_bipush (v := 15) C.1 C.2.1 dX7_scaleBy_1 (by decide) ?_
  refine zr_ic_le (tgt := 14) C dX7_scaleBy_3 (by decide) h (fun h => ?_) (fun h => ?_)
  · refine lv_iconst (v := 0) C.1 C.2.1 dX7_scaleBy_14 (by decide) ?_
    exact zq_X7_scaleBy_15_27 hr C _ _ _ _ h _ _ _ w (lv_sub hl [0, 1] rfl)
  · refine lv_iload_n C.1 C.2.1 dX7_scaleBy_6 rfl (lv_at hl 1 rfl) ?_
    refine lv_iconst (v := 3) C.1 C.2.1 dX7_scaleBy_7 (by decide) ?_
    refine lv_ishr C.1 C.2.1 dX7_scaleBy_8 ?_
    refine lv_iconst (v := 1) C.1 C.2.1 dX7_scaleBy_9 (by decide) ?_
    refine lv_isub C.1 C.2.1 dX7_scaleBy_10 ?_
    refine lv_goto (tgt := 15) C.1 C.2.1 dX7_scaleBy_11 (by decide) ?_
    exact zq_X7_scaleBy_15_27 hr C _ _ _ _ h _ _ _ w (lv_sub hl [0, 1] rfl)
set_option maxHeartbeats 4000000 in
set_option maxRecDepth 100000 in
theorem zm_X7_told_27 (l : Launch) (G : zg_T) (S : zs_T) (a1 : Int32) (r : Int32) (h : zf_X7_told 27 S a1 = some r) : Met l yX7_told (Cond.code yX7_told cX7_told 2 (some .int) :: zt_G) zr_m_X7_told (va_Pc [.ref (zg_q G 27), .int a1] (zg_P G S)) (zg_Q G (some (.int r)) S) 0 0 (zg_A G) := by
  refine zx_met (by decide +kernel) (Nat.le_of_ble_eq_true rfl) (lv := [(0, .ref (zg_q G 27)), (1, .int a1)]) rfl ?_
  intro p e s m below meth c C hr w ls hl
  replace C : zx_C p s m _ meth c G RX7 cX7_told 2 := C
  unfold zf_X7_told at h
  refine lv_iload_n C.1 C.2.1 dX7_told_0 rfl (lv_at hl 1 rfl) ?_
  refine lv_aload_n C.1 C.2.1 dX7_told_1 rfl (lv_at hl 0 rfl) ?_
  refine zr_get C w 27 zm_w_X7 (zw_g27 G _) rfl 1 (by decide) zm_f_X7_15 rfl dX7_told_2 ?_
  refine lv_ishl C.1 C.2.1 dX7_told_5 ?_
  refine zr_gets C w 11 (by decide) zm_f_X7_22 dX7_told_6 ?_
  refine lv_aload_n C.1 C.2.1 dX7_told_9 rfl (lv_at hl 0 rfl) ?_
  refine zr_get C w 27 zm_w_X7 (zw_g27 G _) rfl 2 (by decide) zm_f_X7_19 rfl dX7_told_10 ?_
  refine zr_tab C w 11 (by decide) (n := 8) rfl (g := zt_v11) rfl dX7_told_13 h (fun h => ?_)
  refine zr_callSi C w (As := [.int (a1 <<< ((S.1 27 1) &&& 31)), .int (zt_v11 (Int32.toNatClampNeg (S.1 27 2)))]) (zm_X4_floored l G _ _ _ _ rfl) zm_c_X4_floored zm_l_X7_25 zm_s_X4_floored zm_0_X4 zm_d_X4_floored ⟨rfl, rfl⟩ ⟨Nat.le_of_ble_eq_true rfl, Nat.le_of_ble_eq_true rfl⟩ hl.1 rfl rfl (Nat.le_of_ble_eq_true rfl) dX7_told_14 ⟨Nat.le_of_ble_eq_true rfl, Nat.le_of_ble_eq_true rfl⟩ (fun H locs w => ?_)
  refine zr_lti h (fun v1 h => ?_)
  refine lv_bipush (v := 12) C.1 C.2.1 dX7_told_17 (by decide) ?_
  refine lv_ishr C.1 C.2.1 dX7_told_19 ?_
  refine lv_iconst (v := 4) C.1 C.2.1 dX7_told_20 (by decide) ?_
  refine lv_iadd C.1 C.2.1 dX7_told_21 ?_
  exact zr_reti C w hr dX7_told_22 (Option.some.inj h) rfl
set_option maxHeartbeats 4000000 in
set_option maxRecDepth 100000 in
theorem zk_J7_fill_53178_5_28 {p : Program} {l : Launch} {e : Env} {s : State} {m : MethodId} {args : Array Value} {below : List Frame} {meth : Method} {c : Code} {G : zg_T} {Q : State → Prop} (C : zx_C p s m args meth c G RJ7 cJ7_fill_53178 4) (f1 : Int32) (f3 : Int32) (oS : zs_T) (kont : ∀ (H : Heap) (locs : List Loc) (ls : Array Slot), zg_W G oS s H locs → lv_has ls 4 [] → W p l e zr_m_J7_fill_53178 s m args below meth c H locs 0 0 Q (F0 m 20 ls [])) : ∀ (n : Nat) (S : zs_T) (x2 : Int32), zl_2 (zb_J7_fill_53178_5 28 40 f1 f3) n S x2 = some oS → ∀ (H : Heap) (locs : List Loc) (ls : Array Slot), zg_W G S s H locs → lv_has ls 4 [(0, .ref (zg_q G 28)), (1, .int f1), (2, .int x2), (3, .int f3)] → W p l e zr_m_J7_fill_53178 s m args below meth c H locs 0 0 Q (F0 m 5 ls []) := by
  intro n
  induction n with
  | zero => intro S x2 h; cases h
  | succ n ih =>
    intro S x2 h H locs ls w hl
    replace h : zb_J7_fill_53178_5 28 40 f1 f3 (zl_2 (zb_J7_fill_53178_5 28 40 f1 f3) n) S x2 = some oS := h
    generalize zl_2 (zb_J7_fill_53178_5 28 40 f1 f3) n = rec at ih h
    unfold zb_J7_fill_53178_5 at h
    refine lv_iload_n C.1 C.2.1 dJ7_fill_53178_5 rfl (lv_at hl 2 rfl) ?_
    refine lv_iload_n C.1 C.2.1 dJ7_fill_53178_6 rfl (lv_at hl 3 rfl) ?_
    refine zr_ic_ge (tgt := 20) C dJ7_fill_53178_7 (by decide) h (fun h => ?_) (fun h => ?_)
    · cases h
      exact kont _ _ _ w (lv_sub hl [] rfl)
    · refine lv_aload_n C.1 C.2.1 dJ7_fill_53178_10 rfl (lv_at hl 0 rfl) ?_
      refine lv_iload_n C.1 C.2.1 dJ7_fill_53178_11 rfl (lv_at hl 2 rfl) ?_
      refine lv_iload_n C.1 C.2.1 dJ7_fill_53178_12 rfl (lv_at hl 1 rfl) ?_
      refine zr_iast C w 28 (zw_g28 G _) (zw_s28 G _) dJ7_fill_53178_13 h (fun S2 H locs w h => ?_)
      obtain ⟨v3, e_, h⟩ := zc_lt_x h
      refine lv_iinc (v := v3) (lv' := [(2, .int v3), (0, .ref (zg_q G 28)), (1, .int f1), (3, .int f3)]) C.1 C.2.1 dJ7_fill_53178_14 hl (k := 2) rfl (by subst e_; rfl) (by decide) rfl (fun ls hl => ?_)
      clear e_
      refine lv_goto (tgt := 5) C.1 C.2.1 dJ7_fill_53178_17 (by decide) ?_
      exact ih _ _ h _ _ _ w (lv_sub hl [1, 2, 0, 3] rfl)
set_option maxHeartbeats 4000000 in
set_option maxRecDepth 100000 in
theorem zm_J7_fill_53178_28 (l : Launch) (G : zg_T) (S : zs_T) (a1 : Int32) (S1 : zs_T) (h : zf_J7_fill_53178 28 40 S a1 = some S1) : Met l yJ7_fill_53178 (Cond.code yJ7_fill_53178 cJ7_fill_53178 4 none :: zt_G) zr_m_J7_fill_53178 (va_Pc [.ref (zg_q G 28), .int a1] (zg_P G S)) (zg_Q G none S1) 0 0 (zg_A G) := by
  refine zx_met (by decide +kernel) (Nat.le_of_ble_eq_true rfl) (lv := [(0, .ref (zg_q G 28)), (1, .int a1)]) rfl ?_
  intro p e s m below meth c C hr w ls hl
  replace C : zx_C p s m _ meth c G RJ7 cJ7_fill_53178 4 := C
  unfold zf_J7_fill_53178 at h
  refine lv_iconst (v := 0) C.1 C.2.1 dJ7_fill_53178_0 (by decide) ?_
  refine lv_istore_n (lv' := [(2, .int (0 : Int32)), (0, .ref (zg_q G 28)), (1, .int a1)]) C.1 C.2.1 dJ7_fill_53178_1 rfl hl (by decide) rfl (fun ls hl => ?_)
  refine lv_aload_n C.1 C.2.1 dJ7_fill_53178_2 rfl (lv_at hl 1 rfl) ?_
  refine zr_alen C w 28 (zw_g28 G _) rfl dJ7_fill_53178_3 ?_
  refine zr_lti h (fun v1 h => ?_)
  refine lv_istore_n (lv' := [(3, .int v1), (2, .int (0 : Int32)), (0, .ref (zg_q G 28)), (1, .int a1)]) C.1 C.2.1 dJ7_fill_53178_4 rfl hl (by decide) rfl (fun ls hl => ?_)
  obtain ⟨S4, hc, h⟩ := zc_b1_x h
  refine zk_J7_fill_53178_5_28 C a1 v1 S4 (fun H locs ls w hl => ?_) _ _ _ hc _ _ _ w (lv_sub hl [2, 3, 1, 0] rfl)
  clear hc
  exact zr_retv C w hr dJ7_fill_53178_20 (Option.some.inj h)
set_option maxHeartbeats 4000000 in
set_option maxRecDepth 100000 in
theorem zq_X7_made_19_27 {p : Program} {l : Launch} {e : Env} {s : State} {m : MethodId} {args : Array Value} {below : List Frame} {meth : Method} {c : Code} {G : zg_T} (hr : meth.sig.returnType = (some .int)) (C : zx_C p s m args meth c G RX7 cX7_made 4) (r : Int32) (S : zs_T) (y1 : Int32) (z0 : Int32) (h : zj_X7_made_19 27 S y1 z0 = some r) (H : Heap) (locs : List Loc) (ls : Array Slot) (w : zg_W G S s H locs) (hl : lv_has ls 4 [(0, .ref (zg_q G 27)), (1, .int y1)]) : W p l e zr_m_X7_made s m args below meth c H locs 0 0 (MQ below (zg_Q G (some (.int r)) S) args s 0 0 (zg_A G)) (F0 m 19 ls [.int z0]) := by
  unfold zj_X7_made_19 at h
  refine lv_istore_n (lv' := [(2, .int z0), (0, .ref (zg_q G 27)), (1, .int y1)]) C.1 C.2.1 dX7_made_19 rfl hl (by decide) rfl (fun ls hl => ?_)
  refine zr_gets C w 12 (by decide) zm_f_X7_45 dX7_made_20 ?_
  refine lv_aload_n C.1 C.2.1 dX7_made_23 rfl (lv_at hl 1 rfl) ?_
  refine zr_get C w 27 zm_w_X7 (zw_g27 G _) rfl 2 (by decide) zm_f_X7_19 rfl dX7_made_24 ?_
  refine zr_tab C w 12 (by decide) (n := 8) rfl (g := zt_v12) rfl dX7_made_27 h (fun h => ?_)
  refine lv_iconst (v := 2) C.1 C.2.1 dX7_made_28 (by decide) ?_
  refine lv_iload_n C.1 C.2.1 dX7_made_29 rfl (lv_at hl 2 rfl) ?_
  refine lv_imul C.1 C.2.1 dX7_made_30 ?_
  refine lv_bipush (v := 7) C.1 C.2.1 dX7_made_31 (by decide) ?_
  refine lv_isub C.1 C.2.1 dX7_made_33 ?_
  refine lv_sipush (v := 4096) C.1 C.2.1 dX7_made_34 (by decide) ?_
  refine lv_imul C.1 C.2.1 dX7_made_37 ?_
  refine zr_callSi C w (As := [.int (zt_v12 (Int32.toNatClampNeg (S.1 27 2))), .int ((((2 : Int32) * y1) - (7 : Int32)) * (4096 : Int32))]) (zm_X4_rounded l G _ _ _ _ rfl) zm_c_X4_rounded zm_l_X7_48 zm_s_X4_rounded zm_0_X4 zm_d_X4_rounded ⟨rfl, rfl⟩ ⟨Nat.le_of_ble_eq_true rfl, Nat.le_of_ble_eq_true rfl⟩ hl.1 rfl rfl (Nat.le_of_ble_eq_true rfl) dX7_made_38 ⟨Nat.le_of_ble_eq_true rfl, Nat.le_of_ble_eq_true rfl⟩ (fun H locs w => ?_)
  refine zr_lti h (fun v1 h => ?_)
  refine lv_istore_n (lv' := [(3, .int v1), (2, .int z0), (0, .ref (zg_q G 27)), (1, .int y1)]) C.1 C.2.1 dX7_made_41 rfl hl (by decide) rfl (fun ls hl => ?_)
  refine lv_iload_n C.1 C.2.1 dX7_made_42 rfl (lv_at hl 0 rfl) ?_
  refine lv_iload_n C.1 C.2.1 dX7_made_43 rfl (lv_at hl 1 rfl) ?_
  refine lv_iadd C.1 C.2.1 dX7_made_44 ?_
  refine zr_callSi C w (As := [.int (v1 + z0)]) (zm_X4_cut l G _ _ _ rfl) zm_c_X4_cut zm_l_X7_51 zm_s_X4_cut zm_0_X4 zm_d_X4_cut ⟨rfl, rfl⟩ ⟨Nat.le_of_ble_eq_true rfl, Nat.le_of_ble_eq_true rfl⟩ hl.1 rfl rfl (Nat.le_of_ble_eq_true rfl) dX7_made_45 ⟨Nat.le_of_ble_eq_true rfl, Nat.le_of_ble_eq_true rfl⟩ (fun H locs w => ?_)
  refine zr_lti h (fun v2 h => ?_)
  refine lv_aload_n C.1 C.2.1 dX7_made_48 rfl (lv_at hl 2 rfl) ?_
  refine zr_get C w 27 zm_w_X7 (zw_g27 G _) rfl 1 (by decide) zm_f_X7_15 rfl dX7_made_49 ?_
  refine lv_ishr C.1 C.2.1 dX7_made_52 ?_
  exact zr_reti C w hr dX7_made_53 (Option.some.inj h) rfl
set_option maxHeartbeats 4000000 in
set_option maxRecDepth 100000 in
theorem zm_X7_made_27 (l : Launch) (G : zg_T) (S : zs_T) (a1 : Int32) (r : Int32) (h : zf_X7_made 27 S a1 = some r) : Met l yX7_made (Cond.code yX7_made cX7_made 4 (some .int) :: zt_G) zr_m_X7_made (va_Pc [.ref (zg_q G 27), .int a1] (zg_P G S)) (zg_Q G (some (.int r)) S) 0 0 (zg_A G) := by
  refine zx_met (by decide +kernel) (Nat.le_of_ble_eq_true rfl) (lv := [(0, .ref (zg_q G 27)), (1, .int a1)]) rfl ?_
  intro p e s m below meth c C hr w ls hl
  replace C : zx_C p s m _ meth c G RX7 cX7_made 4 := C
  unfold zf_X7_made at h
  refine lv_aload_n C.1 C.2.1 dX7_made_0 rfl (lv_at hl 0 rfl) ?_
  refine zr_get C w 27 zm_w_X7 (zw_g27 G _) rfl 1 (by decide) zm_f_X7_15 rfl dX7_made_1 ?_
  refine zr_if_ne (tgt := 11) C dX7_made_4 (by decide) h (fun h => ?_) (fun h => ?_)
  · refine lv_iconst (v := 1) C.1 C.2.1 dX7_made_11 (by decide) ?_
    refine lv_aload_n C.1 C.2.1 dX7_made_12 rfl (lv_at hl 0 rfl) ?_
    refine zr_get C w 27 zm_w_X7 (zw_g27 G _) rfl 1 (by decide) zm_f_X7_15 rfl dX7_made_13 ?_
    refine lv_iconst (v := 1) C.1 C.2.1 dX7_made_16 (by decide) ?_
    refine lv_isub C.1 C.2.1 dX7_made_17 ?_
    refine lv_ishl C.1 C.2.1 dX7_made_18 ?_
    exact zq_X7_made_19_27 hr C _ _ _ _ h _ _ _ w (lv_sub hl [0, 1] rfl)
  · refine lv_iconst (v := 0) C.1 C.2.1 dX7_made_7 (by decide) ?_
    refine lv_goto (tgt := 19) C.1 C.2.1 dX7_made_8 (by decide) ?_
    exact zq_X7_made_19_27 hr C _ _ _ _ h _ _ _ w (lv_sub hl [0, 1] rfl)
set_option maxHeartbeats 4000000 in
set_option maxRecDepth 100000 in
theorem zk_X7_makeAgain_26_27_3 {p : Program} {l : Launch} {e : Env} {s : State} {m : MethodId} {args : Array Value} {below : List Frame} {meth : Method} {c : Code} {G : zg_T} {Q : State → Prop} (C : zx_C p s m args meth c G RX7 cX7_makeAgain 5) (f2 : Int32) (f3 : Int32) (oS : zs_T) (kont : ∀ (H : Heap) (locs : List Loc) (ls : Array Slot), zg_W G oS s H locs → lv_has ls 5 [] → W p l e zr_m_X7_makeAgain s m args below meth c H locs 0 0 Q (F0 m 62 ls [])) : ∀ (n : Nat) (S : zs_T) (x4 : Int32), zl_2 (zb_X7_makeAgain_26 3 27 28 f2 f3) n S x4 = some oS → ∀ (H : Heap) (locs : List Loc) (ls : Array Slot), zg_W G S s H locs → lv_has ls 5 [(0, .ref (zg_q G 27)), (1, .ref (zg_q G 3)), (2, .int f2), (3, .int f3), (4, .int x4)] → W p l e zr_m_X7_makeAgain s m args below meth c H locs 0 0 Q (F0 m 26 ls []) := by
  intro n
  induction n with
  | zero => intro S x4 h; cases h
  | succ n ih =>
    intro S x4 h H locs ls w hl
    replace h : zb_X7_makeAgain_26 3 27 28 f2 f3 (zl_2 (zb_X7_makeAgain_26 3 27 28 f2 f3) n) S x4 = some oS := h
    generalize zl_2 (zb_X7_makeAgain_26 3 27 28 f2 f3) n = rec at ih h
    unfold zb_X7_makeAgain_26 at h
    refine lv_iload C.1 C.2.1 dX7_makeAgain_26 (lv_at hl 4 rfl) ?_
    refine lv_bipush (v := 13) C.1 C.2.1 dX7_makeAgain_28 (by decide) ?_
    refine zr_ic_ge (tgt := 62) C dX7_makeAgain_30 (by decide) h (fun h => ?_) (fun h => ?_)
    · cases h
      exact kont _ _ _ w (lv_sub hl [] rfl)
    · refine lv_aload_n C.1 C.2.1 dX7_makeAgain_33 rfl (lv_at hl 0 rfl) ?_
      refine zr_get C w 27 zm_w_X7 (zw_g27 G _) rfl 0 (by decide) zm_f_X7_9 rfl dX7_makeAgain_34 ?_
      refine lv_iload_n C.1 C.2.1 dX7_makeAgain_37 rfl (lv_at hl 3 rfl) ?_
      refine lv_iconst (v := 3) C.1 C.2.1 dX7_makeAgain_38 (by decide) ?_
      refine lv_iload C.1 C.2.1 dX7_makeAgain_39 (lv_at hl 4 rfl) ?_
      refine lv_imul C.1 C.2.1 dX7_makeAgain_41 ?_
      refine lv_iadd C.1 C.2.1 dX7_makeAgain_42 ?_
      refine lv_aload_n C.1 C.2.1 dX7_makeAgain_43 rfl (lv_at hl 0 rfl) ?_
      refine lv_aload_n C.1 C.2.1 dX7_makeAgain_44 rfl (lv_at hl 1 rfl) ?_
      refine lv_iload_n C.1 C.2.1 dX7_makeAgain_45 rfl (lv_at hl 2 rfl) ?_
      refine lv_iconst (v := 4) C.1 C.2.1 dX7_makeAgain_46 (by decide) ?_
      refine lv_iadd C.1 C.2.1 dX7_makeAgain_47 ?_
      refine lv_iload C.1 C.2.1 dX7_makeAgain_48 (lv_at hl 4 rfl) ?_
      refine lv_iadd C.1 C.2.1 dX7_makeAgain_50 ?_
      refine zr_iald C w 3 (zw_g3 G _) dX7_makeAgain_51 h (fun h => ?_)
      obtain ⟨v4, hc, h⟩ := zc_b1_x h
      refine zr_callVi C w 27 (zw_g27 G _) rfl (As := [.int (S.1 3 (Int32.toNatClampNeg ((f2 + (4 : Int32)) + x4)))]) (zm_X7_made_27 l G _ _ _ hc) zm_c_X7_made zm_l_X7_41 zm_i_X7_made zm_e_X7_made zm_0_X7 zm_d_X7_made ⟨rfl, rfl⟩ ⟨Nat.le_of_ble_eq_true rfl, Nat.le_of_ble_eq_true rfl⟩ hl.1 rfl rfl (Nat.le_of_ble_eq_true rfl) dX7_makeAgain_52 ⟨Nat.le_of_ble_eq_true rfl, Nat.le_of_ble_eq_true rfl⟩ (fun H locs w => ?_)
      clear hc
      refine zr_iast C w 28 (zw_g28 G _) (zw_s28 G _) dX7_makeAgain_55 h (fun S5 H locs w h => ?_)
      obtain ⟨v6, e_, h⟩ := zc_lt_x h
      refine lv_iinc (v := v6) (lv' := [(4, .int v6), (0, .ref (zg_q G 27)), (1, .ref (zg_q G 3)), (2, .int f2), (3, .int f3)]) C.1 C.2.1 dX7_makeAgain_56 hl (k := 4) rfl (by subst e_; rfl) (by decide) rfl (fun ls hl => ?_)
      clear e_
      refine lv_goto (tgt := 26) C.1 C.2.1 dX7_makeAgain_59 (by decide) ?_
      exact ih _ _ h _ _ _ w (lv_sub hl [1, 2, 3, 4, 0] rfl)
set_option maxHeartbeats 4000000 in
set_option maxRecDepth 100000 in
theorem zm_X7_makeAgain_27_3 (l : Launch) (G : zg_T) (S : zs_T) (a1 : Int32) (S1 : zs_T) (h : zf_X7_makeAgain 3 27 28 S a1 = some S1) : Met l yX7_makeAgain (Cond.code yX7_makeAgain cX7_makeAgain 5 none :: zt_G) zr_m_X7_makeAgain (va_Pc [.ref (zg_q G 27), .ref (zg_q G 3), .int a1] (zg_P G S)) (zg_Q G none S1) 0 0 (zg_A G) := by
  refine zx_met (by decide +kernel) (Nat.le_of_ble_eq_true rfl) (lv := [(0, .ref (zg_q G 27)), (1, .ref (zg_q G 3)), (2, .int a1)]) rfl ?_
  intro p e s m below meth c C hr w ls hl
  replace C : zx_C p s m _ meth c G RX7 cX7_makeAgain 5 := C
  unfold zf_X7_makeAgain at h
  refine lv_aload_n C.1 C.2.1 dX7_makeAgain_0 rfl (lv_at hl 1 rfl) ?_
  refine lv_iload_n C.1 C.2.1 dX7_makeAgain_1 rfl (lv_at hl 2 rfl) ?_
  refine lv_iconst (v := 2) C.1 C.2.1 dX7_makeAgain_2 (by decide) ?_
  refine lv_iadd C.1 C.2.1 dX7_makeAgain_3 ?_
  refine zr_iald C w 3 (zw_g3 G _) dX7_makeAgain_4 h (fun h => ?_)
  refine zr_lti h (fun v1 h => ?_)
  refine lv_istore_n (lv' := [(3, .int v1), (0, .ref (zg_q G 27)), (1, .ref (zg_q G 3)), (2, .int a1)]) C.1 C.2.1 dX7_makeAgain_5 rfl hl (by decide) rfl (fun ls hl => ?_)
  refine lv_aload_n C.1 C.2.1 dX7_makeAgain_6 rfl (lv_at hl 1 rfl) ?_
  refine lv_aload_n C.1 C.2.1 dX7_makeAgain_7 rfl (lv_at hl 2 rfl) ?_
  refine lv_iload_n C.1 C.2.1 dX7_makeAgain_8 rfl (lv_at hl 3 rfl) ?_
  refine lv_iconst (v := 3) C.1 C.2.1 dX7_makeAgain_9 (by decide) ?_
  refine lv_iadd C.1 C.2.1 dX7_makeAgain_10 ?_
  refine zr_iald C w 3 (zw_g3 G _) dX7_makeAgain_11 h (fun h => ?_)
  obtain ⟨S2, hc, h⟩ := zc_b1_x h
  refine zr_callVv C w 27 (zw_g27 G _) rfl (As := [.int (S.1 3 (Int32.toNatClampNeg (a1 + (3 : Int32))))]) (zm_X7_scaleBy_27 l G _ _ _ hc) zm_c_X7_scaleBy zm_l_X7_31 zm_i_X7_scaleBy zm_e_X7_scaleBy zm_0_X7 zm_d_X7_scaleBy ⟨rfl, rfl⟩ ⟨Nat.le_of_ble_eq_true rfl, Nat.le_of_ble_eq_true rfl⟩ hl.1 rfl rfl (Nat.le_of_ble_eq_true rfl) dX7_makeAgain_12 ⟨Nat.le_of_ble_eq_true rfl, Nat.le_of_ble_eq_true rfl⟩ (fun H locs w => ?_)
  clear hc
  refine lv_aload_n C.1 C.2.1 dX7_makeAgain_15 rfl (lv_at hl 1 rfl) ?_
  refine zr_get C w 27 zm_w_X7 (zw_g27 G _) rfl 0 (by decide) zm_f_X7_9 rfl dX7_makeAgain_16 ?_
  refine lv_iconst (v := 0) C.1 C.2.1 dX7_makeAgain_19 (by decide) ?_
  obtain ⟨S3, hc, h⟩ := zc_b1_x h
  refine zr_callSv C w (As := [.ref (zg_q G 28), .int (0 : Int32)]) (zm_J7_fill_53178_28 l G _ _ _ hc) zm_c_J7_fill_53178 zm_l_X7_35 zm_s_J7_fill_53178 zm_0_J7 zm_d_J7_fill_53178 ⟨rfl, rfl⟩ ⟨Nat.le_of_ble_eq_true rfl, Nat.le_of_ble_eq_true rfl⟩ hl.1 rfl rfl (Nat.le_of_ble_eq_true rfl) dX7_makeAgain_20 ⟨Nat.le_of_ble_eq_true rfl, Nat.le_of_ble_eq_true rfl⟩ (fun H locs w => ?_)
  clear hc
  refine lv_iconst (v := 0) C.1 C.2.1 dX7_makeAgain_23 (by decide) ?_
  refine lv_istore (lv' := [(4, .int (0 : Int32)), (3, .int v1), (0, .ref (zg_q G 27)), (1, .ref (zg_q G 3)), (2, .int a1)]) C.1 C.2.1 dX7_makeAgain_24 hl (by decide) rfl (fun ls hl => ?_)
  obtain ⟨S7, hc, h⟩ := zc_b1_x h
  refine zk_X7_makeAgain_26_27_3 C a1 v1 S7 (fun H locs ls w hl => ?_) _ _ _ hc _ _ _ w (lv_sub hl [2, 3, 4, 1, 0] rfl)
  clear hc
  exact zr_retv C w hr dX7_makeAgain_62 (Option.some.inj h)
set_option maxHeartbeats 4000000 in
set_option maxRecDepth 100000 in
theorem zk_X5_add_2_19_28 {p : Program} {l : Launch} {e : Env} {s : State} {m : MethodId} {args : Array Value} {below : List Frame} {meth : Method} {c : Code} {G : zg_T} {Q : State → Prop} (C : zx_C p s m args meth c G RX5 cX5_add 4) (f1 : Int32) (oS : zs_T) (kont : ∀ (H : Heap) (locs : List Loc) (ls : Array Slot), zg_W G oS s H locs → lv_has ls 4 [] → W p l e zr_m_X5_add s m args below meth c H locs 0 0 Q (F0 m 38 ls [])) : ∀ (n : Nat) (S : zs_T) (x3 : Int32), zl_2 (zb_X5_add_2 28 21 20 f1) n S x3 = some oS → ∀ (H : Heap) (locs : List Loc) (ls : Array Slot), zg_W G S s H locs → lv_has ls 4 [(0, .ref (zg_q G 19)), (1, .int f1), (2, .ref (zg_q G 28)), (3, .int x3)] → W p l e zr_m_X5_add s m args below meth c H locs 0 0 Q (F0 m 2 ls []) := by
  intro n
  induction n with
  | zero => intro S x3 h; cases h
  | succ n ih =>
    intro S x3 h H locs ls w hl
    replace h : zb_X5_add_2 28 21 20 f1 (zl_2 (zb_X5_add_2 28 21 20 f1) n) S x3 = some oS := h
    generalize zl_2 (zb_X5_add_2 28 21 20 f1) n = rec at ih h
    unfold zb_X5_add_2 at h
    refine lv_iload_n C.1 C.2.1 dX5_add_2 rfl (lv_at hl 3 rfl) ?_
    refine lv_bipush (v := 40) C.1 C.2.1 dX5_add_3 (by decide) ?_
    refine zr_ic_ge (tgt := 38) C dX5_add_5 (by decide) h (fun h => ?_) (fun h => ?_)
    · cases h
      exact kont _ _ _ w (lv_sub hl [] rfl)
    · refine lv_aload_n C.1 C.2.1 dX5_add_8 rfl (lv_at hl 0 rfl) ?_
      refine zr_get C w 19 zm_w_X5 (zw_g19 G _) rfl 0 (by decide) zm_f_X5_9 rfl dX5_add_9 ?_
      refine lv_iload_n C.1 C.2.1 dX5_add_12 rfl (lv_at hl 1 rfl) ?_
      refine zr_callSi C w (As := [.int f1]) (zm_X5_from l G _ _ _ rfl) zm_c_X5_from zm_l_X5_21 zm_s_X5_from zm_0_X5 zm_d_X5_from ⟨rfl, rfl⟩ ⟨Nat.le_of_ble_eq_true rfl, Nat.le_of_ble_eq_true rfl⟩ hl.1 rfl rfl (Nat.le_of_ble_eq_true rfl) dX5_add_13 ⟨Nat.le_of_ble_eq_true rfl, Nat.le_of_ble_eq_true rfl⟩ (fun H locs w => ?_)
      refine zr_lti h (fun v1 h => ?_)
      refine lv_iload_n C.1 C.2.1 dX5_add_16 rfl (lv_at hl 3 rfl) ?_
      refine lv_iadd C.1 C.2.1 dX5_add_17 ?_
      refine lv_aload_n C.1 C.2.1 dX5_add_18 rfl (lv_at hl 2 rfl) ?_
      refine lv_iload_n C.1 C.2.1 dX5_add_19 rfl (lv_at hl 3 rfl) ?_
      refine zr_iald C w 28 (zw_g28 G _) dX5_add_20 h (fun h => ?_)
      refine lv_aload_n C.1 C.2.1 dX5_add_21 rfl (lv_at hl 0 rfl) ?_
      refine zr_get C w 19 zm_w_X5 (zw_g19 G _) rfl 1 (by decide) zm_f_X5_15 rfl dX5_add_22 ?_
      refine lv_iload_n C.1 C.2.1 dX5_add_25 rfl (lv_at hl 3 rfl) ?_
      refine zr_iald C w 21 (zw_g21 G _) dX5_add_26 h (fun h => ?_)
      refine lv_iadd C.1 C.2.1 dX5_add_27 ?_
      refine zr_callSi C w (As := [.int ((S.1 28 (Int32.toNatClampNeg x3)) + (S.1 21 (Int32.toNatClampNeg x3)))]) (zm_X4_cut l G _ _ _ rfl) zm_c_X4_cut zm_l_X5_31 zm_s_X4_cut zm_0_X4 zm_d_X4_cut ⟨rfl, rfl⟩ ⟨Nat.le_of_ble_eq_true rfl, Nat.le_of_ble_eq_true rfl⟩ hl.1 rfl rfl (Nat.le_of_ble_eq_true rfl) dX5_add_28 ⟨Nat.le_of_ble_eq_true rfl, Nat.le_of_ble_eq_true rfl⟩ (fun H locs w => ?_)
      refine zr_lti h (fun v2 h => ?_)
      refine zr_iast C w 20 (zw_g20 G _) (zw_s20 G _) dX5_add_31 h (fun S3 H locs w h => ?_)
      obtain ⟨v4, e_, h⟩ := zc_lt_x h
      refine lv_iinc (v := v4) (lv' := [(3, .int v4), (0, .ref (zg_q G 19)), (1, .int f1), (2, .ref (zg_q G 28))]) C.1 C.2.1 dX5_add_32 hl (k := 3) rfl (by subst e_; rfl) (by decide) rfl (fun ls hl => ?_)
      clear e_
      refine lv_goto (tgt := 2) C.1 C.2.1 dX5_add_35 (by decide) ?_
      exact ih _ _ h _ _ _ w (lv_sub hl [1, 2, 3, 0] rfl)
set_option maxHeartbeats 4000000 in
set_option maxRecDepth 100000 in
theorem zm_X5_add_19_28 (l : Launch) (G : zg_T) (S : zs_T) (a1 : Int32) (S1 : zs_T) (h : zf_X5_add 28 21 20 S a1 = some S1) : Met l yX5_add (Cond.code yX5_add cX5_add 4 none :: zt_G) zr_m_X5_add (va_Pc [.ref (zg_q G 19), .int a1, .ref (zg_q G 28)] (zg_P G S)) (zg_Q G none S1) 0 0 (zg_A G) := by
  refine zx_met (by decide +kernel) (Nat.le_of_ble_eq_true rfl) (lv := [(0, .ref (zg_q G 19)), (1, .int a1), (2, .ref (zg_q G 28))]) rfl ?_
  intro p e s m below meth c C hr w ls hl
  replace C : zx_C p s m _ meth c G RX5 cX5_add 4 := C
  unfold zf_X5_add at h
  refine lv_iconst (v := 0) C.1 C.2.1 dX5_add_0 (by decide) ?_
  refine lv_istore_n (lv' := [(3, .int (0 : Int32)), (0, .ref (zg_q G 19)), (1, .int a1), (2, .ref (zg_q G 28))]) C.1 C.2.1 dX5_add_1 rfl hl (by decide) rfl (fun ls hl => ?_)
  obtain ⟨S5, hc, h⟩ := zc_b1_x h
  refine zk_X5_add_2_19_28 C a1 S5 (fun H locs ls w hl => ?_) _ _ _ hc _ _ _ w (lv_sub hl [1, 2, 3, 0] rfl)
  clear hc
  exact zr_retv C w hr dX5_add_38 (Option.some.inj h)
set_option maxHeartbeats 4000000 in
set_option maxRecDepth 100000 in
theorem zk_X1_describePart_128 {p : Program} {l : Launch} {e : Env} {s : State} {m : MethodId} {args : Array Value} {below : List Frame} {meth : Method} {c : Code} {G : zg_T} {Q : State → Prop} (C : zx_C p s m args meth c G RX1 cX1_describePart 5) (f1 : Int32) (f3 : Int32) (oS : zs_T) (kont : ∀ (H : Heap) (locs : List Loc) (ls : Array Slot), zg_W G oS s H locs → lv_has ls 5 [(0, .ref (zg_q G 5)), (1, .int f1), (2, .ref (zg_q G 3)), (3, .int f3)] → W p l e zr_m_X1_describePart s m args below meth c H locs 0 0 Q (F0 m 176 ls [])) : ∀ (n : Nat) (S : zs_T) (x4 : Int32), zl_2 (zb_X1_describePart_128 f3) n S x4 = some oS → ∀ (H : Heap) (locs : List Loc) (ls : Array Slot), zg_W G S s H locs → lv_has ls 5 [(0, .ref (zg_q G 5)), (1, .int f1), (2, .ref (zg_q G 3)), (3, .int f3), (4, .int x4)] → W p l e zr_m_X1_describePart s m args below meth c H locs 0 0 Q (F0 m 128 ls []) := by
  intro n
  induction n with
  | zero => intro S x4 h; cases h
  | succ n ih =>
    intro S x4 h H locs ls w hl
    replace h : zb_X1_describePart_128 f3 (zl_2 (zb_X1_describePart_128 f3) n) S x4 = some oS := h
    generalize zl_2 (zb_X1_describePart_128 f3) n = rec at ih h
    unfold zb_X1_describePart_128 at h
    refine lv_iload C.1 C.2.1 dX1_describePart_128 (lv_at hl 4 rfl) ?_
    refine lv_bipush (v := 13) C.1 C.2.1 dX1_describePart_130 (by decide) ?_
    refine zr_ic_ge (tgt := 176) C dX1_describePart_132 (by decide) h (fun h => ?_) (fun h => ?_)
    · cases h
      exact kont _ _ _ w (lv_sub hl [0, 1, 2, 3] rfl)
    · refine lv_aload_n C.1 C.2.1 dX1_describePart_135 rfl (lv_at hl 2 rfl) ?_
      refine lv_iload_n C.1 C.2.1 dX1_describePart_136 rfl (lv_at hl 3 rfl) ?_
      refine lv_iconst (v := 4) C.1 C.2.1 dX1_describePart_137 (by decide) ?_
      refine lv_iadd C.1 C.2.1 dX1_describePart_138 ?_
      refine lv_iload C.1 C.2.1 dX1_describePart_139 (lv_at hl 4 rfl) ?_
      refine lv_iadd C.1 C.2.1 dX1_describePart_141 ?_
      refine lv_aload_n C.1 C.2.1 dX1_describePart_142 rfl (lv_at hl 0 rfl) ?_
      refine zr_get C w 5 zm_w_X1 (zw_g5 G _) rfl 6 (by decide) zm_f_X1_56 rfl dX1_describePart_143 ?_
      refine lv_aload_n C.1 C.2.1 dX1_describePart_146 rfl (lv_at hl 0 rfl) ?_
      refine zr_get C w 5 zm_w_X1 (zw_g5 G _) rfl 5 (by decide) zm_f_X1_49 rfl dX1_describePart_147 ?_
      refine zr_getN C w 24 zm_w_X9 (zw_g24 G _) rfl 1 (by decide) zm_n_X1_156 rfl dX1_describePart_150 ?_
      refine lv_aload_n C.1 C.2.1 dX1_describePart_153 rfl (lv_at hl 0 rfl) ?_
      refine zr_get C w 5 zm_w_X1 (zw_g5 G _) rfl 5 (by decide) zm_f_X1_49 rfl dX1_describePart_154 ?_
      refine zr_getN C w 24 zm_w_X9 (zw_g24 G _) rfl 2 (by decide) zm_n_X1_147 rfl dX1_describePart_157 ?_
      refine lv_iconst (v := 3) C.1 C.2.1 dX1_describePart_160 (by decide) ?_
      refine lv_iload C.1 C.2.1 dX1_describePart_161 (lv_at hl 4 rfl) ?_
      refine lv_imul C.1 C.2.1 dX1_describePart_163 ?_
      refine lv_iadd C.1 C.2.1 dX1_describePart_164 ?_
      refine zr_iald C w 26 (zw_g26 G _) dX1_describePart_165 h (fun h => ?_)
      obtain ⟨v10, hc, h⟩ := zc_b1_x h
      refine zr_callVi C w 27 (zw_g27 G _) rfl (As := [.int (S.1 26 (Int32.toNatClampNeg ((S.1 24 2) + ((3 : Int32) * x4))))]) (zm_X7_told_27 l G _ _ _ hc) zm_c_X7_told zm_l_X1_157 zm_i_X7_told zm_e_X7_told zm_0_X7 zm_d_X7_told ⟨rfl, rfl⟩ ⟨Nat.le_of_ble_eq_true rfl, Nat.le_of_ble_eq_true rfl⟩ hl.1 rfl rfl (Nat.le_of_ble_eq_true rfl) dX1_describePart_166 ⟨Nat.le_of_ble_eq_true rfl, Nat.le_of_ble_eq_true rfl⟩ (fun H locs w => ?_)
      clear hc
      refine zr_iast C w 3 (zw_g3 G _) (zw_s3 G _) dX1_describePart_169 h (fun S11 H locs w h => ?_)
      obtain ⟨v12, e_, h⟩ := zc_lt_x h
      refine lv_iinc (v := v12) (lv' := [(4, .int v12), (0, .ref (zg_q G 5)), (1, .int f1), (2, .ref (zg_q G 3)), (3, .int f3)]) C.1 C.2.1 dX1_describePart_170 hl (k := 4) rfl (by subst e_; rfl) (by decide) rfl (fun ls hl => ?_)
      clear e_
      refine lv_goto (tgt := 128) C.1 C.2.1 dX1_describePart_173 (by decide) ?_
      exact ih _ _ h _ _ _ w (lv_sub hl [1, 2, 3, 4, 0] rfl)
set_option maxHeartbeats 4000000 in
set_option maxRecDepth 100000 in
theorem zm_X1_describePart (l : Launch) (G : zg_T) (S : zs_T) (a1 : Int32) (S1 : zs_T) (h : zf_X1_describePart S a1 = some S1) : Met l yX1_describePart (Cond.code yX1_describePart cX1_describePart 5 none :: zt_G) zr_m_X1_describePart (va_Pc [.ref (zg_q G 5), .int a1, .ref (zg_q G 3)] (zg_P G S)) (zg_Q G none S1) 0 0 (zg_A G) := by
  refine zx_met (by decide +kernel) (Nat.le_of_ble_eq_true rfl) (lv := [(0, .ref (zg_q G 5)), (1, .int a1), (2, .ref (zg_q G 3))]) rfl ?_
  intro p e s m below meth c C hr w ls hl
  replace C : zx_C p s m _ meth c G RX1 cX1_describePart 5 := C
  unfold zf_X1_describePart at h
  refine lv_bipush (v := 8) C.1 C.2.1 dX1_describePart_0 (by decide) ?_
  refine lv_bipush (v := 17) C.1 C.2.1 dX1_describePart_2 (by decide) ?_
  refine lv_iload_n C.1 C.2.1 dX1_describePart_4 rfl (lv_at hl 1 rfl) ?_
  refine lv_imul C.1 C.2.1 dX1_describePart_5 ?_
  refine lv_iadd C.1 C.2.1 dX1_describePart_6 ?_
  refine zr_lti h (fun v1 h => ?_)
  refine lv_istore_n (lv' := [(3, .int v1), (0, .ref (zg_q G 5)), (1, .int a1), (2, .ref (zg_q G 3))]) C.1 C.2.1 dX1_describePart_7 rfl hl (by decide) rfl (fun ls hl => ?_)
  refine lv_aload_n C.1 C.2.1 dX1_describePart_8 rfl (lv_at hl 1 rfl) ?_
  refine zr_get C w 5 zm_w_X1 (zw_g5 G _) rfl 4 (by decide) zm_f_X1_42 rfl dX1_describePart_9 ?_
  refine lv_aload_n C.1 C.2.1 dX1_describePart_12 rfl (lv_at hl 1 rfl) ?_
  refine zr_get C w 5 zm_w_X1 (zw_g5 G _) rfl 7 (by decide) zm_f_X1_60 rfl dX1_describePart_13 ?_
  refine lv_iload_n C.1 C.2.1 dX1_describePart_16 rfl (lv_at hl 2 rfl) ?_
  refine lv_aload_n C.1 C.2.1 dX1_describePart_17 rfl (lv_at hl 1 rfl) ?_
  refine zr_get C w 5 zm_w_X1 (zw_g5 G _) rfl 3 (by decide) zm_f_X1_35 rfl dX1_describePart_18 ?_
  obtain ⟨S2, hc, h⟩ := zc_b1_x h
  refine zr_callVv C w 22 (zw_g22 G _) rfl (As := [.ref (zg_q G 6), .int a1, .ref (zg_q G 19)]) (zm_X8_find l G _ _ _ hc) zm_c_X8_find zm_l_X1_126 zm_i_X8_find zm_e_X8_find zm_0_X8 zm_d_X8_find ⟨rfl, rfl⟩ ⟨Nat.le_of_ble_eq_true rfl, Nat.le_of_ble_eq_true rfl⟩ hl.1 rfl rfl (Nat.le_of_ble_eq_true rfl) dX1_describePart_21 ⟨Nat.le_of_ble_eq_true rfl, Nat.le_of_ble_eq_true rfl⟩ (fun H locs w => ?_)
  clear hc
  refine lv_aload_n C.1 C.2.1 dX1_describePart_24 rfl (lv_at hl 1 rfl) ?_
  refine zr_get C w 5 zm_w_X1 (zw_g5 G _) rfl 3 (by decide) zm_f_X1_35 rfl dX1_describePart_25 ?_
  refine lv_iload_n C.1 C.2.1 dX1_describePart_28 rfl (lv_at hl 2 rfl) ?_
  refine lv_aload_n C.1 C.2.1 dX1_describePart_29 rfl (lv_at hl 1 rfl) ?_
  refine zr_get C w 5 zm_w_X1 (zw_g5 G _) rfl 4 (by decide) zm_f_X1_42 rfl dX1_describePart_30 ?_
  refine zr_getN C w 22 zm_w_X8 (zw_g22 G _) rfl 1 (by decide) zm_n_X1_130 rfl dX1_describePart_33 ?_
  refine lv_aload_n C.1 C.2.1 dX1_describePart_36 rfl (lv_at hl 1 rfl) ?_
  refine zr_get C w 5 zm_w_X1 (zw_g5 G _) rfl 4 (by decide) zm_f_X1_42 rfl dX1_describePart_37 ?_
  refine zr_getN C w 22 zm_w_X8 (zw_g22 G _) rfl 2 (by decide) zm_n_X1_133 rfl dX1_describePart_40 ?_
  obtain ⟨S3, hc, h⟩ := zc_b1_x h
  refine zr_callVv C w 19 (zw_g19 G _) rfl (As := [.int a1, .int (S2.1 22 1), .int (S2.1 22 2)]) (zm_X5_look_19 l G _ _ _ _ _ hc) zm_c_X5_look zm_l_X1_136 zm_i_X5_look zm_e_X5_look zm_0_X5 zm_d_X5_look ⟨rfl, rfl⟩ ⟨Nat.le_of_ble_eq_true rfl, Nat.le_of_ble_eq_true rfl⟩ hl.1 rfl rfl (Nat.le_of_ble_eq_true rfl) dX1_describePart_43 ⟨Nat.le_of_ble_eq_true rfl, Nat.le_of_ble_eq_true rfl⟩ (fun H locs w => ?_)
  clear hc
  refine lv_aload_n C.1 C.2.1 dX1_describePart_46 rfl (lv_at hl 1 rfl) ?_
  refine zr_get C w 5 zm_w_X1 (zw_g5 G _) rfl 5 (by decide) zm_f_X1_49 rfl dX1_describePart_47 ?_
  refine lv_aload_n C.1 C.2.1 dX1_describePart_50 rfl (lv_at hl 1 rfl) ?_
  refine zr_get C w 5 zm_w_X1 (zw_g5 G _) rfl 7 (by decide) zm_f_X1_60 rfl dX1_describePart_51 ?_
  refine lv_iload_n C.1 C.2.1 dX1_describePart_54 rfl (lv_at hl 2 rfl) ?_
  refine lv_aload_n C.1 C.2.1 dX1_describePart_55 rfl (lv_at hl 1 rfl) ?_
  refine zr_get C w 5 zm_w_X1 (zw_g5 G _) rfl 3 (by decide) zm_f_X1_35 rfl dX1_describePart_56 ?_
  refine zr_getN C w 19 zm_w_X5 (zw_g19 G _) rfl 1 (by decide) zm_n_X1_140 rfl dX1_describePart_59 ?_
  obtain ⟨S4, hc, h⟩ := zc_b1_x h
  refine zr_callVv C w 24 (zw_g24 G _) rfl (As := [.ref (zg_q G 6), .int a1, .ref (zg_q G 21)]) (zm_X9_thin l G _ _ _ hc) zm_c_X9_thin zm_l_X1_143 zm_i_X9_thin zm_e_X9_thin zm_0_X9 zm_d_X9_thin ⟨rfl, rfl⟩ ⟨Nat.le_of_ble_eq_true rfl, Nat.le_of_ble_eq_true rfl⟩ hl.1 rfl rfl (Nat.le_of_ble_eq_true rfl) dX1_describePart_62 ⟨Nat.le_of_ble_eq_true rfl, Nat.le_of_ble_eq_true rfl⟩ (fun H locs w => ?_)
  clear hc
  refine lv_aload_n C.1 C.2.1 dX1_describePart_65 rfl (lv_at hl 3 rfl) ?_
  refine lv_iload_n C.1 C.2.1 dX1_describePart_66 rfl (lv_at hl 0 rfl) ?_
  refine lv_aload_n C.1 C.2.1 dX1_describePart_67 rfl (lv_at hl 1 rfl) ?_
  refine zr_get C w 5 zm_w_X1 (zw_g5 G _) rfl 4 (by decide) zm_f_X1_42 rfl dX1_describePart_68 ?_
  refine zr_getN C w 22 zm_w_X8 (zw_g22 G _) rfl 1 (by decide) zm_n_X1_130 rfl dX1_describePart_71 ?_
  refine zr_iast C w 3 (zw_g3 G _) (zw_s3 G _) dX1_describePart_74 h (fun S5 H locs w h => ?_)
  refine lv_aload_n C.1 C.2.1 dX1_describePart_75 rfl (lv_at hl 3 rfl) ?_
  refine lv_iload_n C.1 C.2.1 dX1_describePart_76 rfl (lv_at hl 0 rfl) ?_
  refine lv_iconst (v := 1) C.1 C.2.1 dX1_describePart_77 (by decide) ?_
  refine lv_iadd C.1 C.2.1 dX1_describePart_78 ?_
  refine lv_aload_n C.1 C.2.1 dX1_describePart_79 rfl (lv_at hl 1 rfl) ?_
  refine zr_get C w 5 zm_w_X1 (zw_g5 G _) rfl 4 (by decide) zm_f_X1_42 rfl dX1_describePart_80 ?_
  refine zr_getN C w 22 zm_w_X8 (zw_g22 G _) rfl 2 (by decide) zm_n_X1_133 rfl dX1_describePart_83 ?_
  refine zr_iast C w 3 (zw_g3 G _) (zw_s3 G _) dX1_describePart_86 h (fun S6 H locs w h => ?_)
  refine lv_aload_n C.1 C.2.1 dX1_describePart_87 rfl (lv_at hl 3 rfl) ?_
  refine lv_iload_n C.1 C.2.1 dX1_describePart_88 rfl (lv_at hl 0 rfl) ?_
  refine lv_iconst (v := 2) C.1 C.2.1 dX1_describePart_89 (by decide) ?_
  refine lv_iadd C.1 C.2.1 dX1_describePart_90 ?_
  refine lv_aload_n C.1 C.2.1 dX1_describePart_91 rfl (lv_at hl 1 rfl) ?_
  refine zr_get C w 5 zm_w_X1 (zw_g5 G _) rfl 5 (by decide) zm_f_X1_49 rfl dX1_describePart_92 ?_
  refine zr_getN C w 24 zm_w_X9 (zw_g24 G _) rfl 2 (by decide) zm_n_X1_147 rfl dX1_describePart_95 ?_
  refine zr_iast C w 3 (zw_g3 G _) (zw_s3 G _) dX1_describePart_98 h (fun S7 H locs w h => ?_)
  refine lv_aload_n C.1 C.2.1 dX1_describePart_99 rfl (lv_at hl 3 rfl) ?_
  refine lv_iload_n C.1 C.2.1 dX1_describePart_100 rfl (lv_at hl 0 rfl) ?_
  refine lv_iconst (v := 3) C.1 C.2.1 dX1_describePart_101 (by decide) ?_
  refine lv_iadd C.1 C.2.1 dX1_describePart_102 ?_
  refine lv_aload_n C.1 C.2.1 dX1_describePart_103 rfl (lv_at hl 1 rfl) ?_
  refine zr_get C w 5 zm_w_X1 (zw_g5 G _) rfl 5 (by decide) zm_f_X1_49 rfl dX1_describePart_104 ?_
  refine zr_getN C w 24 zm_w_X9 (zw_g24 G _) rfl 3 (by decide) zm_n_X1_150 rfl dX1_describePart_107 ?_
  refine zr_iast C w 3 (zw_g3 G _) (zw_s3 G _) dX1_describePart_110 h (fun S8 H locs w h => ?_)
  refine lv_aload_n C.1 C.2.1 dX1_describePart_111 rfl (lv_at hl 1 rfl) ?_
  refine zr_get C w 5 zm_w_X1 (zw_g5 G _) rfl 6 (by decide) zm_f_X1_56 rfl dX1_describePart_112 ?_
  refine lv_aload_n C.1 C.2.1 dX1_describePart_115 rfl (lv_at hl 1 rfl) ?_
  refine zr_get C w 5 zm_w_X1 (zw_g5 G _) rfl 5 (by decide) zm_f_X1_49 rfl dX1_describePart_116 ?_
  refine zr_getN C w 24 zm_w_X9 (zw_g24 G _) rfl 3 (by decide) zm_n_X1_150 rfl dX1_describePart_119 ?_
  obtain ⟨S9, hc, h⟩ := zc_b1_x h
  refine zr_callVv C w 27 (zw_g27 G _) rfl (As := [.int (S8.1 24 3)]) (zm_X7_scaleBy_27 l G _ _ _ hc) zm_c_X7_scaleBy zm_l_X1_153 zm_i_X7_scaleBy zm_e_X7_scaleBy zm_0_X7 zm_d_X7_scaleBy ⟨rfl, rfl⟩ ⟨Nat.le_of_ble_eq_true rfl, Nat.le_of_ble_eq_true rfl⟩ hl.1 rfl rfl (Nat.le_of_ble_eq_true rfl) dX1_describePart_122 ⟨Nat.le_of_ble_eq_true rfl, Nat.le_of_ble_eq_true rfl⟩ (fun H locs w => ?_)
  clear hc
  refine lv_iconst (v := 0) C.1 C.2.1 dX1_describePart_125 (by decide) ?_
  refine lv_istore (lv' := [(4, .int (0 : Int32)), (3, .int v1), (0, .ref (zg_q G 5)), (1, .int a1), (2, .ref (zg_q G 3))]) C.1 C.2.1 dX1_describePart_126 hl (by decide) rfl (fun ls hl => ?_)
  obtain ⟨S13, hc, h⟩ := zc_b1_x h
  refine zk_X1_describePart_128 C a1 v1 S13 (fun H locs ls w hl => ?_) _ _ _ hc _ _ _ w (lv_sub hl [2, 3, 4, 1, 0] rfl)
  clear hc
  refine lv_aload_n C.1 C.2.1 dX1_describePart_176 rfl (lv_at hl 0 rfl) ?_
  refine zr_get C w 5 zm_w_X1 (zw_g5 G _) rfl 6 (by decide) zm_f_X1_56 rfl dX1_describePart_177 ?_
  refine lv_aload_n C.1 C.2.1 dX1_describePart_180 rfl (lv_at hl 2 rfl) ?_
  refine lv_iload_n C.1 C.2.1 dX1_describePart_181 rfl (lv_at hl 3 rfl) ?_
  obtain ⟨S14, hc, h⟩ := zc_b1_x h
  refine zr_callVv C w 27 (zw_g27 G _) rfl (As := [.ref (zg_q G 3), .int v1]) (zm_X7_makeAgain_27_3 l G _ _ _ hc) zm_c_X7_makeAgain zm_l_X1_160 zm_i_X7_makeAgain zm_e_X7_makeAgain zm_0_X7 zm_d_X7_makeAgain ⟨rfl, rfl⟩ ⟨Nat.le_of_ble_eq_true rfl, Nat.le_of_ble_eq_true rfl⟩ hl.1 rfl rfl (Nat.le_of_ble_eq_true rfl) dX1_describePart_182 ⟨Nat.le_of_ble_eq_true rfl, Nat.le_of_ble_eq_true rfl⟩ (fun H locs w => ?_)
  clear hc
  refine lv_aload_n C.1 C.2.1 dX1_describePart_185 rfl (lv_at hl 0 rfl) ?_
  refine zr_get C w 5 zm_w_X1 (zw_g5 G _) rfl 3 (by decide) zm_f_X1_35 rfl dX1_describePart_186 ?_
  refine lv_iload_n C.1 C.2.1 dX1_describePart_189 rfl (lv_at hl 1 rfl) ?_
  refine lv_aload_n C.1 C.2.1 dX1_describePart_190 rfl (lv_at hl 0 rfl) ?_
  refine zr_get C w 5 zm_w_X1 (zw_g5 G _) rfl 6 (by decide) zm_f_X1_56 rfl dX1_describePart_191 ?_
  refine zr_getN C w 27 zm_w_X7 (zw_g27 G _) rfl 0 (by decide) zm_n_X1_163 rfl dX1_describePart_194 ?_
  obtain ⟨S15, hc, h⟩ := zc_b1_x h
  refine zr_callVv C w 19 (zw_g19 G _) rfl (As := [.int a1, .ref (zg_q G 28)]) (zm_X5_add_19_28 l G _ _ _ hc) zm_c_X5_add zm_l_X1_166 zm_i_X5_add zm_e_X5_add zm_0_X5 zm_d_X5_add ⟨rfl, rfl⟩ ⟨Nat.le_of_ble_eq_true rfl, Nat.le_of_ble_eq_true rfl⟩ hl.1 rfl rfl (Nat.le_of_ble_eq_true rfl) dX1_describePart_197 ⟨Nat.le_of_ble_eq_true rfl, Nat.le_of_ble_eq_true rfl⟩ (fun H locs w => ?_)
  clear hc
  exact zr_retv C w hr dX1_describePart_200 (Option.some.inj h)
set_option maxHeartbeats 4000000 in
set_option maxRecDepth 100000 in
theorem zm_X5_endFrame_19 (l : Launch) (G : zg_T) (S : zs_T) (S1 : zs_T) (h : zf_X5_endFrame 20 S = some S1) : Met l yX5_endFrame (Cond.code yX5_endFrame cX5_endFrame 1 none :: zt_G) zr_m_X5_endFrame (va_Pc [.ref (zg_q G 19)] (zg_P G S)) (zg_Q G none S1) 0 0 (zg_A G) := by
  refine zx_met (by decide +kernel) (Nat.le_of_ble_eq_true rfl) (lv := [(0, .ref (zg_q G 19))]) rfl ?_
  intro p e s m below meth c C hr w ls hl
  replace C : zx_C p s m _ meth c G RX5 cX5_endFrame 1 := C
  unfold zf_X5_endFrame at h
  refine lv_aload_n C.1 C.2.1 dX5_endFrame_0 rfl (lv_at hl 0 rfl) ?_
  refine zr_get C w 19 zm_w_X5 (zw_g19 G _) rfl 0 (by decide) zm_f_X5_9 rfl dX5_endFrame_1 ?_
  refine lv_sipush (v := 160) C.1 C.2.1 dX5_endFrame_4 (by decide) ?_
  refine lv_aload_n C.1 C.2.1 dX5_endFrame_7 rfl (lv_at hl 0 rfl) ?_
  refine zr_get C w 19 zm_w_X5 (zw_g19 G _) rfl 0 (by decide) zm_f_X5_9 rfl dX5_endFrame_8 ?_
  refine lv_iconst (v := 0) C.1 C.2.1 dX5_endFrame_11 (by decide) ?_
  refine lv_bipush (v := 120) C.1 C.2.1 dX5_endFrame_12 (by decide) ?_
  refine zr_copy C w 20 (zw_g20 G _) (zw_s20 G _) zm_l_X5_34 zm_ac_n zm_ac_s zm_ac_i (by decide) (by decide) (by decide) (by decide) (by decide) hl.1 (Nat.le_of_ble_eq_true rfl) (Nat.le_of_ble_eq_true rfl) dX5_endFrame_14 h (fun S1 H locs w h => ?_)
  exact zr_retv C w hr dX5_endFrame_17 (Option.some.inj h)
set_option maxHeartbeats 4000000 in
set_option maxRecDepth 100000 in
theorem zk_X1_describe_38 {p : Program} {l : Launch} {e : Env} {s : State} {m : MethodId} {args : Array Value} {below : List Frame} {meth : Method} {c : Code} {G : zg_T} {Q : State → Prop} (C : zx_C p s m args meth c G RX1 cX1_describe 4) (oS : zs_T) (kont : ∀ (H : Heap) (locs : List Loc) (ls : Array Slot), zg_W G oS s H locs → lv_has ls 4 [(0, .ref (zg_q G 5))] → W p l e zr_m_X1_describe s m args below meth c H locs 0 0 Q (F0 m 55 ls [])) : ∀ (n : Nat) (S : zs_T) (x3 : Int32), zl_2 (zb_X1_describe_38) n S x3 = some oS → ∀ (H : Heap) (locs : List Loc) (ls : Array Slot), zg_W G S s H locs → lv_has ls 4 [(0, .ref (zg_q G 5)), (2, .ref (zg_q G 3)), (3, .int x3)] → W p l e zr_m_X1_describe s m args below meth c H locs 0 0 Q (F0 m 38 ls []) := by
  intro n
  induction n with
  | zero => intro S x3 h; cases h
  | succ n ih =>
    intro S x3 h H locs ls w hl
    replace h : zb_X1_describe_38 (zl_2 (zb_X1_describe_38) n) S x3 = some oS := h
    generalize zl_2 (zb_X1_describe_38) n = rec at ih h
    unfold zb_X1_describe_38 at h
    refine lv_iload_n C.1 C.2.1 dX1_describe_38 rfl (lv_at hl 2 rfl) ?_
    refine lv_iconst (v := 4) C.1 C.2.1 dX1_describe_39 (by decide) ?_
    refine zr_ic_ge (tgt := 55) C dX1_describe_40 (by decide) h (fun h => ?_) (fun h => ?_)
    · cases h
      exact kont _ _ _ w (lv_sub hl [0] rfl)
    · refine lv_aload_n C.1 C.2.1 dX1_describe_43 rfl (lv_at hl 0 rfl) ?_
      refine lv_iload_n C.1 C.2.1 dX1_describe_44 rfl (lv_at hl 2 rfl) ?_
      refine lv_aload_n C.1 C.2.1 dX1_describe_45 rfl (lv_at hl 1 rfl) ?_
      obtain ⟨S5, hc, h⟩ := zc_b1_x h
      refine zr_callVv C w 5 (zw_g5 G _) rfl (As := [.int x3, .ref (zg_q G 3)]) (zm_X1_describePart l G _ _ _ hc) zm_c_X1_describePart zm_l_X1_81 zm_i_X1_describePart zm_e_X1_describePart zm_0_X1 zm_d_X1_describePart ⟨rfl, rfl⟩ ⟨Nat.le_of_ble_eq_true rfl, Nat.le_of_ble_eq_true rfl⟩ hl.1 rfl rfl (Nat.le_of_ble_eq_true rfl) dX1_describe_46 ⟨Nat.le_of_ble_eq_true rfl, Nat.le_of_ble_eq_true rfl⟩ (fun H locs w => ?_)
      clear hc
      obtain ⟨v6, e_, h⟩ := zc_lt_x h
      refine lv_iinc (v := v6) (lv' := [(3, .int v6), (0, .ref (zg_q G 5)), (2, .ref (zg_q G 3))]) C.1 C.2.1 dX1_describe_49 hl (k := 2) rfl (by subst e_; rfl) (by decide) rfl (fun ls hl => ?_)
      clear e_
      refine lv_goto (tgt := 38) C.1 C.2.1 dX1_describe_52 (by decide) ?_
      exact ih _ _ h _ _ _ w (lv_sub hl [1, 2, 0] rfl)
set_option maxHeartbeats 4000000 in
set_option maxRecDepth 100000 in
theorem zm_X1_describe (l : Launch) (G : zg_T) (S : zs_T) (S1 : zs_T) (h : zf_X1_describe S = some S1) : Met l yX1_describe (Cond.code yX1_describe cX1_describe 4 none :: zt_G) zr_m_X1_describe (va_Pc [.ref (zg_q G 5), .ref (zg_q G 1), .ref (zg_q G 3)] (zg_P G S)) (zg_Q G none S1) 0 0 (zg_A G) := by
  refine zx_met (by decide +kernel) (Nat.le_of_ble_eq_true rfl) (lv := [(0, .ref (zg_q G 5)), (1, .ref (zg_q G 1)), (2, .ref (zg_q G 3))]) rfl ?_
  intro p e s m below meth c C hr w ls hl
  replace C : zx_C p s m _ meth c G RX1 cX1_describe 4 := C
  unfold zf_X1_describe at h
  refine lv_aload_n C.1 C.2.1 dX1_describe_0 rfl (lv_at hl 0 rfl) ?_
  refine zr_get C w 5 zm_w_X1 (zw_g5 G _) rfl 0 (by decide) zm_f_X1_12 rfl dX1_describe_1 ?_
  refine lv_aload_n C.1 C.2.1 dX1_describe_4 rfl (lv_at hl 1 rfl) ?_
  refine lv_aload_n C.1 C.2.1 dX1_describe_5 rfl (lv_at hl 0 rfl) ?_
  refine zr_get C w 5 zm_w_X1 (zw_g5 G _) rfl 7 (by decide) zm_f_X1_60 rfl dX1_describe_6 ?_
  obtain ⟨S1, hc, h⟩ := zc_b1_x h
  refine zr_callVv C w 8 (zw_g8 G _) rfl (As := [.ref (zg_q G 1), .ref (zg_q G 6)]) (zm_X3_smooth l G _ _ hc) zm_c_X3_smooth zm_l_X1_67 zm_i_X3_smooth zm_e_X3_smooth zm_0_X3 zm_d_X3_smooth ⟨rfl, rfl⟩ ⟨Nat.le_of_ble_eq_true rfl, Nat.le_of_ble_eq_true rfl⟩ hl.1 rfl rfl (Nat.le_of_ble_eq_true rfl) dX1_describe_9 ⟨Nat.le_of_ble_eq_true rfl, Nat.le_of_ble_eq_true rfl⟩ (fun H locs w => ?_)
  clear hc
  refine lv_aload_n C.1 C.2.1 dX1_describe_12 rfl (lv_at hl 0 rfl) ?_
  refine zr_get C w 5 zm_w_X1 (zw_g5 G _) rfl 1 (by decide) zm_f_X1_21 rfl dX1_describe_13 ?_
  refine lv_aload_n C.1 C.2.1 dX1_describe_16 rfl (lv_at hl 0 rfl) ?_
  refine zr_get C w 5 zm_w_X1 (zw_g5 G _) rfl 7 (by decide) zm_f_X1_60 rfl dX1_describe_17 ?_
  refine lv_aload_n C.1 C.2.1 dX1_describe_20 rfl (lv_at hl 2 rfl) ?_
  obtain ⟨S2, hc, h⟩ := zc_b1_x h
  refine zr_callVv C w 9 (zw_g9 G _) rfl (As := [.ref (zg_q G 6), .ref (zg_q G 3)]) (zm_X6_predict l G _ _ hc) zm_c_X6_predict zm_l_X1_71 zm_i_X6_predict zm_e_X6_predict zm_0_X6 zm_d_X6_predict ⟨rfl, rfl⟩ ⟨Nat.le_of_ble_eq_true rfl, Nat.le_of_ble_eq_true rfl⟩ hl.1 rfl rfl (Nat.le_of_ble_eq_true rfl) dX1_describe_21 ⟨Nat.le_of_ble_eq_true rfl, Nat.le_of_ble_eq_true rfl⟩ (fun H locs w => ?_)
  clear hc
  refine lv_aload_n C.1 C.2.1 dX1_describe_24 rfl (lv_at hl 0 rfl) ?_
  refine zr_get C w 5 zm_w_X1 (zw_g5 G _) rfl 2 (by decide) zm_f_X1_28 rfl dX1_describe_25 ?_
  refine lv_aload_n C.1 C.2.1 dX1_describe_28 rfl (lv_at hl 2 rfl) ?_
  obtain ⟨S3, hc, h⟩ := zc_b1_x h
  refine zr_callVv C w 15 (zw_g15 G _) rfl (As := [.ref (zg_q G 3)]) (zm_X2_learn_15_3 l G _ _ hc) zm_c_X2_learn zm_l_X1_74 zm_i_X2_learn zm_e_X2_learn zm_0_X2 zm_d_X2_learn ⟨rfl, rfl⟩ ⟨Nat.le_of_ble_eq_true rfl, Nat.le_of_ble_eq_true rfl⟩ hl.1 rfl rfl (Nat.le_of_ble_eq_true rfl) dX1_describe_29 ⟨Nat.le_of_ble_eq_true rfl, Nat.le_of_ble_eq_true rfl⟩ (fun H locs w => ?_)
  clear hc
  refine lv_aload_n C.1 C.2.1 dX1_describe_32 rfl (lv_at hl 0 rfl) ?_
  obtain ⟨S4, hc, h⟩ := zc_b1_x h
  refine zr_callVv C w 5 (zw_g5 G _) rfl (As := []) (zm_X1_takeAway l G _ _ hc) zm_c_X1_takeAway zm_l_X1_78 zm_i_X1_takeAway zm_e_X1_takeAway zm_0_X1 zm_d_X1_takeAway ⟨rfl, rfl⟩ ⟨Nat.le_of_ble_eq_true rfl, Nat.le_of_ble_eq_true rfl⟩ hl.1 rfl rfl (Nat.le_of_ble_eq_true rfl) dX1_describe_33 ⟨Nat.le_of_ble_eq_true rfl, Nat.le_of_ble_eq_true rfl⟩ (fun H locs w => ?_)
  clear hc
  refine lv_iconst (v := 0) C.1 C.2.1 dX1_describe_36 (by decide) ?_
  refine lv_istore_n (lv' := [(3, .int (0 : Int32)), (0, .ref (zg_q G 5)), (1, .ref (zg_q G 1)), (2, .ref (zg_q G 3))]) C.1 C.2.1 dX1_describe_37 rfl hl (by decide) rfl (fun ls hl => ?_)
  obtain ⟨S7, hc, h⟩ := zc_b1_x h
  refine zk_X1_describe_38 C S7 (fun H locs ls w hl => ?_) _ _ _ hc _ _ _ w (lv_sub hl [1, 3, 0] rfl)
  clear hc
  refine lv_aload_n C.1 C.2.1 dX1_describe_55 rfl (lv_at hl 0 rfl) ?_
  refine zr_get C w 5 zm_w_X1 (zw_g5 G _) rfl 3 (by decide) zm_f_X1_35 rfl dX1_describe_56 ?_
  obtain ⟨S8, hc, h⟩ := zc_b1_x h
  refine zr_callVv C w 19 (zw_g19 G _) rfl (As := []) (zm_X5_endFrame_19 l G _ _ hc) zm_c_X5_endFrame zm_l_X1_85 zm_i_X5_endFrame zm_e_X5_endFrame zm_0_X5 zm_d_X5_endFrame ⟨rfl, rfl⟩ ⟨Nat.le_of_ble_eq_true rfl, Nat.le_of_ble_eq_true rfl⟩ hl.1 rfl rfl (Nat.le_of_ble_eq_true rfl) dX1_describe_59 ⟨Nat.le_of_ble_eq_true rfl, Nat.le_of_ble_eq_true rfl⟩ (fun H locs w => ?_)
  clear hc
  refine lv_aload_n C.1 C.2.1 dX1_describe_62 rfl (lv_at hl 0 rfl) ?_
  refine lv_dup C.1 C.2.1 dX1_describe_63 rfl ?_
  refine zr_get C w 5 zm_w_X1 (zw_g5 G _) rfl 9 (by decide) zm_f_X1_88 rfl dX1_describe_64 ?_
  refine lv_iconst (v := 1) C.1 C.2.1 dX1_describe_67 (by decide) ?_
  refine lv_iadd C.1 C.2.1 dX1_describe_68 ?_
  refine zr_put C w 5 zm_w_X1 tyX1 tyX1_ok nmX1 (zw_g5 G _) rfl 9 (by decide) zm_f_X1_88 rfl (ty := .int) (by decide +kernel) rfl rfl (Nat.le_of_ble_eq_true rfl) (zw_f5_9 G _ _) dX1_describe_69 h (fun S9 H locs w h => ?_)
  exact zr_retv C w hr dX1_describe_72 (Option.some.inj h)
set_option maxHeartbeats 4000000 in
set_option maxRecDepth 100000 in
theorem zm_X3_forget (l : Launch) (G : zg_T) (S : zs_T) (S1 : zs_T) (h : zf_X3_forget S = some S1) : Met l yX3_forget (Cond.code yX3_forget cX3_forget 1 none :: zt_G) zr_m_X3_forget (va_Pc [.ref (zg_q G 8)] (zg_P G S)) (zg_Q G none S1) 0 0 (zg_A G) := by
  refine zx_met (by decide +kernel) (Nat.le_of_ble_eq_true rfl) (lv := [(0, .ref (zg_q G 8))]) rfl ?_
  intro p e s m below meth c C hr w ls hl
  replace C : zx_C p s m _ meth c G RX3 cX3_forget 1 := C
  unfold zf_X3_forget at h
  refine lv_aload_n C.1 C.2.1 dX3_forget_0 rfl (lv_at hl 0 rfl) ?_
  refine lv_iconst (v := 0) C.1 C.2.1 dX3_forget_1 (by decide) ?_
  refine zr_put C w 8 zm_w_X3 tyX3 tyX3_ok nmX3 (zw_g8 G _) rfl 0 (by decide) zm_f_X3_15 rfl (ty := .int) (by decide +kernel) rfl rfl (Nat.le_of_ble_eq_true rfl) (zw_f8_0 G _ _) dX3_forget_2 h (fun S1 H locs w h => ?_)
  refine lv_aload_n C.1 C.2.1 dX3_forget_5 rfl (lv_at hl 0 rfl) ?_
  refine lv_iconst (v := 0) C.1 C.2.1 dX3_forget_6 (by decide) ?_
  refine zr_put C w 8 zm_w_X3 tyX3 tyX3_ok nmX3 (zw_g8 G _) rfl 1 (by decide) zm_f_X3_19 rfl (ty := .int) (by decide +kernel) rfl rfl (Nat.le_of_ble_eq_true rfl) (zw_f8_1 G _ _) dX3_forget_7 h (fun S2 H locs w h => ?_)
  refine lv_aload_n C.1 C.2.1 dX3_forget_10 rfl (lv_at hl 0 rfl) ?_
  refine lv_iconst (v := 0) C.1 C.2.1 dX3_forget_11 (by decide) ?_
  refine zr_put C w 8 zm_w_X3 tyX3 tyX3_ok nmX3 (zw_g8 G _) rfl 2 (by decide) zm_f_X3_22 rfl (ty := .int) (by decide +kernel) rfl rfl (Nat.le_of_ble_eq_true rfl) (zw_f8_2 G _ _) dX3_forget_12 h (fun S3 H locs w h => ?_)
  exact zr_retv C w hr dX3_forget_15 (Option.some.inj h)
set_option maxHeartbeats 4000000 in
set_option maxRecDepth 100000 in
theorem zk_J7_fill_53178_5_16 {p : Program} {l : Launch} {e : Env} {s : State} {m : MethodId} {args : Array Value} {below : List Frame} {meth : Method} {c : Code} {G : zg_T} {Q : State → Prop} (C : zx_C p s m args meth c G RJ7 cJ7_fill_53178 4) (f1 : Int32) (f3 : Int32) (oS : zs_T) (kont : ∀ (H : Heap) (locs : List Loc) (ls : Array Slot), zg_W G oS s H locs → lv_has ls 4 [] → W p l e zr_m_J7_fill_53178 s m args below meth c H locs 0 0 Q (F0 m 20 ls [])) : ∀ (n : Nat) (S : zs_T) (x2 : Int32), zl_2 (zb_J7_fill_53178_5 16 8 f1 f3) n S x2 = some oS → ∀ (H : Heap) (locs : List Loc) (ls : Array Slot), zg_W G S s H locs → lv_has ls 4 [(0, .ref (zg_q G 16)), (1, .int f1), (2, .int x2), (3, .int f3)] → W p l e zr_m_J7_fill_53178 s m args below meth c H locs 0 0 Q (F0 m 5 ls []) := by
  intro n
  induction n with
  | zero => intro S x2 h; cases h
  | succ n ih =>
    intro S x2 h H locs ls w hl
    replace h : zb_J7_fill_53178_5 16 8 f1 f3 (zl_2 (zb_J7_fill_53178_5 16 8 f1 f3) n) S x2 = some oS := h
    generalize zl_2 (zb_J7_fill_53178_5 16 8 f1 f3) n = rec at ih h
    unfold zb_J7_fill_53178_5 at h
    refine lv_iload_n C.1 C.2.1 dJ7_fill_53178_5 rfl (lv_at hl 2 rfl) ?_
    refine lv_iload_n C.1 C.2.1 dJ7_fill_53178_6 rfl (lv_at hl 3 rfl) ?_
    refine zr_ic_ge (tgt := 20) C dJ7_fill_53178_7 (by decide) h (fun h => ?_) (fun h => ?_)
    · cases h
      exact kont _ _ _ w (lv_sub hl [] rfl)
    · refine lv_aload_n C.1 C.2.1 dJ7_fill_53178_10 rfl (lv_at hl 0 rfl) ?_
      refine lv_iload_n C.1 C.2.1 dJ7_fill_53178_11 rfl (lv_at hl 2 rfl) ?_
      refine lv_iload_n C.1 C.2.1 dJ7_fill_53178_12 rfl (lv_at hl 1 rfl) ?_
      refine zr_iast C w 16 (zw_g16 G _) (zw_s16 G _) dJ7_fill_53178_13 h (fun S2 H locs w h => ?_)
      obtain ⟨v3, e_, h⟩ := zc_lt_x h
      refine lv_iinc (v := v3) (lv' := [(2, .int v3), (0, .ref (zg_q G 16)), (1, .int f1), (3, .int f3)]) C.1 C.2.1 dJ7_fill_53178_14 hl (k := 2) rfl (by subst e_; rfl) (by decide) rfl (fun ls hl => ?_)
      clear e_
      refine lv_goto (tgt := 5) C.1 C.2.1 dJ7_fill_53178_17 (by decide) ?_
      exact ih _ _ h _ _ _ w (lv_sub hl [1, 2, 0, 3] rfl)
set_option maxHeartbeats 4000000 in
set_option maxRecDepth 100000 in
theorem zm_J7_fill_53178_16 (l : Launch) (G : zg_T) (S : zs_T) (a1 : Int32) (S1 : zs_T) (h : zf_J7_fill_53178 16 8 S a1 = some S1) : Met l yJ7_fill_53178 (Cond.code yJ7_fill_53178 cJ7_fill_53178 4 none :: zt_G) zr_m_J7_fill_53178 (va_Pc [.ref (zg_q G 16), .int a1] (zg_P G S)) (zg_Q G none S1) 0 0 (zg_A G) := by
  refine zx_met (by decide +kernel) (Nat.le_of_ble_eq_true rfl) (lv := [(0, .ref (zg_q G 16)), (1, .int a1)]) rfl ?_
  intro p e s m below meth c C hr w ls hl
  replace C : zx_C p s m _ meth c G RJ7 cJ7_fill_53178 4 := C
  unfold zf_J7_fill_53178 at h
  refine lv_iconst (v := 0) C.1 C.2.1 dJ7_fill_53178_0 (by decide) ?_
  refine lv_istore_n (lv' := [(2, .int (0 : Int32)), (0, .ref (zg_q G 16)), (1, .int a1)]) C.1 C.2.1 dJ7_fill_53178_1 rfl hl (by decide) rfl (fun ls hl => ?_)
  refine lv_aload_n C.1 C.2.1 dJ7_fill_53178_2 rfl (lv_at hl 1 rfl) ?_
  refine zr_alen C w 16 (zw_g16 G _) rfl dJ7_fill_53178_3 ?_
  refine zr_lti h (fun v1 h => ?_)
  refine lv_istore_n (lv' := [(3, .int v1), (2, .int (0 : Int32)), (0, .ref (zg_q G 16)), (1, .int a1)]) C.1 C.2.1 dJ7_fill_53178_4 rfl hl (by decide) rfl (fun ls hl => ?_)
  obtain ⟨S4, hc, h⟩ := zc_b1_x h
  refine zk_J7_fill_53178_5_16 C a1 v1 S4 (fun H locs ls w hl => ?_) _ _ _ hc _ _ _ w (lv_sub hl [2, 3, 1, 0] rfl)
  clear hc
  exact zr_retv C w hr dJ7_fill_53178_20 (Option.some.inj h)
set_option maxHeartbeats 4000000 in
set_option maxRecDepth 100000 in
theorem zm_X2_forget_15 (l : Launch) (G : zg_T) (S : zs_T) (S1 : zs_T) (h : zf_X2_forget 16 S = some S1) : Met l yX2_forget (Cond.code yX2_forget cX2_forget 1 none :: zt_G) zr_m_X2_forget (va_Pc [.ref (zg_q G 15)] (zg_P G S)) (zg_Q G none S1) 0 0 (zg_A G) := by
  refine zx_met (by decide +kernel) (Nat.le_of_ble_eq_true rfl) (lv := [(0, .ref (zg_q G 15))]) rfl ?_
  intro p e s m below meth c C hr w ls hl
  replace C : zx_C p s m _ meth c G RX2 cX2_forget 1 := C
  unfold zf_X2_forget at h
  refine lv_aload_n C.1 C.2.1 dX2_forget_0 rfl (lv_at hl 0 rfl) ?_
  refine zr_get C w 15 zm_w_X2 (zw_g15 G _) rfl 0 (by decide) zm_f_X2_9 rfl dX2_forget_1 ?_
  refine lv_iconst (v := 0) C.1 C.2.1 dX2_forget_4 (by decide) ?_
  obtain ⟨S1, hc, h⟩ := zc_b1_x h
  refine zr_callSv C w (As := [.ref (zg_q G 16), .int (0 : Int32)]) (zm_J7_fill_53178_16 l G _ _ _ hc) zm_c_J7_fill_53178 zm_l_X2_47 zm_s_J7_fill_53178 zm_0_J7 zm_d_J7_fill_53178 ⟨rfl, rfl⟩ ⟨Nat.le_of_ble_eq_true rfl, Nat.le_of_ble_eq_true rfl⟩ hl.1 rfl rfl (Nat.le_of_ble_eq_true rfl) dX2_forget_5 ⟨Nat.le_of_ble_eq_true rfl, Nat.le_of_ble_eq_true rfl⟩ (fun H locs w => ?_)
  clear hc
  exact zr_retv C w hr dX2_forget_8 (Option.some.inj h)
set_option maxHeartbeats 4000000 in
set_option maxRecDepth 100000 in
theorem zk_J7_fill_53178_5_20 {p : Program} {l : Launch} {e : Env} {s : State} {m : MethodId} {args : Array Value} {below : List Frame} {meth : Method} {c : Code} {G : zg_T} {Q : State → Prop} (C : zx_C p s m args meth c G RJ7 cJ7_fill_53178 4) (f1 : Int32) (f3 : Int32) (oS : zs_T) (kont : ∀ (H : Heap) (locs : List Loc) (ls : Array Slot), zg_W G oS s H locs → lv_has ls 4 [] → W p l e zr_m_J7_fill_53178 s m args below meth c H locs 0 0 Q (F0 m 20 ls [])) : ∀ (n : Nat) (S : zs_T) (x2 : Int32), zl_2 (zb_J7_fill_53178_5 20 280 f1 f3) n S x2 = some oS → ∀ (H : Heap) (locs : List Loc) (ls : Array Slot), zg_W G S s H locs → lv_has ls 4 [(0, .ref (zg_q G 20)), (1, .int f1), (2, .int x2), (3, .int f3)] → W p l e zr_m_J7_fill_53178 s m args below meth c H locs 0 0 Q (F0 m 5 ls []) := by
  intro n
  induction n with
  | zero => intro S x2 h; cases h
  | succ n ih =>
    intro S x2 h H locs ls w hl
    replace h : zb_J7_fill_53178_5 20 280 f1 f3 (zl_2 (zb_J7_fill_53178_5 20 280 f1 f3) n) S x2 = some oS := h
    generalize zl_2 (zb_J7_fill_53178_5 20 280 f1 f3) n = rec at ih h
    unfold zb_J7_fill_53178_5 at h
    refine lv_iload_n C.1 C.2.1 dJ7_fill_53178_5 rfl (lv_at hl 2 rfl) ?_
    refine lv_iload_n C.1 C.2.1 dJ7_fill_53178_6 rfl (lv_at hl 3 rfl) ?_
    refine zr_ic_ge (tgt := 20) C dJ7_fill_53178_7 (by decide) h (fun h => ?_) (fun h => ?_)
    · cases h
      exact kont _ _ _ w (lv_sub hl [] rfl)
    · refine lv_aload_n C.1 C.2.1 dJ7_fill_53178_10 rfl (lv_at hl 0 rfl) ?_
      refine lv_iload_n C.1 C.2.1 dJ7_fill_53178_11 rfl (lv_at hl 2 rfl) ?_
      refine lv_iload_n C.1 C.2.1 dJ7_fill_53178_12 rfl (lv_at hl 1 rfl) ?_
      refine zr_iast C w 20 (zw_g20 G _) (zw_s20 G _) dJ7_fill_53178_13 h (fun S2 H locs w h => ?_)
      obtain ⟨v3, e_, h⟩ := zc_lt_x h
      refine lv_iinc (v := v3) (lv' := [(2, .int v3), (0, .ref (zg_q G 20)), (1, .int f1), (3, .int f3)]) C.1 C.2.1 dJ7_fill_53178_14 hl (k := 2) rfl (by subst e_; rfl) (by decide) rfl (fun ls hl => ?_)
      clear e_
      refine lv_goto (tgt := 5) C.1 C.2.1 dJ7_fill_53178_17 (by decide) ?_
      exact ih _ _ h _ _ _ w (lv_sub hl [1, 2, 0, 3] rfl)
set_option maxHeartbeats 4000000 in
set_option maxRecDepth 100000 in
theorem zm_J7_fill_53178_20 (l : Launch) (G : zg_T) (S : zs_T) (a1 : Int32) (S1 : zs_T) (h : zf_J7_fill_53178 20 280 S a1 = some S1) : Met l yJ7_fill_53178 (Cond.code yJ7_fill_53178 cJ7_fill_53178 4 none :: zt_G) zr_m_J7_fill_53178 (va_Pc [.ref (zg_q G 20), .int a1] (zg_P G S)) (zg_Q G none S1) 0 0 (zg_A G) := by
  refine zx_met (by decide +kernel) (Nat.le_of_ble_eq_true rfl) (lv := [(0, .ref (zg_q G 20)), (1, .int a1)]) rfl ?_
  intro p e s m below meth c C hr w ls hl
  replace C : zx_C p s m _ meth c G RJ7 cJ7_fill_53178 4 := C
  unfold zf_J7_fill_53178 at h
  refine lv_iconst (v := 0) C.1 C.2.1 dJ7_fill_53178_0 (by decide) ?_
  refine lv_istore_n (lv' := [(2, .int (0 : Int32)), (0, .ref (zg_q G 20)), (1, .int a1)]) C.1 C.2.1 dJ7_fill_53178_1 rfl hl (by decide) rfl (fun ls hl => ?_)
  refine lv_aload_n C.1 C.2.1 dJ7_fill_53178_2 rfl (lv_at hl 1 rfl) ?_
  refine zr_alen C w 20 (zw_g20 G _) rfl dJ7_fill_53178_3 ?_
  refine zr_lti h (fun v1 h => ?_)
  refine lv_istore_n (lv' := [(3, .int v1), (2, .int (0 : Int32)), (0, .ref (zg_q G 20)), (1, .int a1)]) C.1 C.2.1 dJ7_fill_53178_4 rfl hl (by decide) rfl (fun ls hl => ?_)
  obtain ⟨S4, hc, h⟩ := zc_b1_x h
  refine zk_J7_fill_53178_5_20 C a1 v1 S4 (fun H locs ls w hl => ?_) _ _ _ hc _ _ _ w (lv_sub hl [2, 3, 1, 0] rfl)
  clear hc
  exact zr_retv C w hr dJ7_fill_53178_20 (Option.some.inj h)
set_option maxHeartbeats 4000000 in
set_option maxRecDepth 100000 in
theorem zm_X5_forget_19 (l : Launch) (G : zg_T) (S : zs_T) (S1 : zs_T) (h : zf_X5_forget 20 S = some S1) : Met l yX5_forget (Cond.code yX5_forget cX5_forget 1 none :: zt_G) zr_m_X5_forget (va_Pc [.ref (zg_q G 19)] (zg_P G S)) (zg_Q G none S1) 0 0 (zg_A G) := by
  refine zx_met (by decide +kernel) (Nat.le_of_ble_eq_true rfl) (lv := [(0, .ref (zg_q G 19))]) rfl ?_
  intro p e s m below meth c C hr w ls hl
  replace C : zx_C p s m _ meth c G RX5 cX5_forget 1 := C
  unfold zf_X5_forget at h
  refine lv_aload_n C.1 C.2.1 dX5_forget_0 rfl (lv_at hl 0 rfl) ?_
  refine zr_get C w 19 zm_w_X5 (zw_g19 G _) rfl 0 (by decide) zm_f_X5_9 rfl dX5_forget_1 ?_
  refine lv_iconst (v := 0) C.1 C.2.1 dX5_forget_4 (by decide) ?_
  obtain ⟨S1, hc, h⟩ := zc_b1_x h
  refine zr_callSv C w (As := [.ref (zg_q G 20), .int (0 : Int32)]) (zm_J7_fill_53178_20 l G _ _ _ hc) zm_c_J7_fill_53178 zm_l_X5_40 zm_s_J7_fill_53178 zm_0_J7 zm_d_J7_fill_53178 ⟨rfl, rfl⟩ ⟨Nat.le_of_ble_eq_true rfl, Nat.le_of_ble_eq_true rfl⟩ hl.1 rfl rfl (Nat.le_of_ble_eq_true rfl) dX5_forget_5 ⟨Nat.le_of_ble_eq_true rfl, Nat.le_of_ble_eq_true rfl⟩ (fun H locs w => ?_)
  clear hc
  exact zr_retv C w hr dX5_forget_8 (Option.some.inj h)
set_option maxHeartbeats 4000000 in
set_option maxRecDepth 100000 in
theorem zk_J7_fill_53178_5_7 {p : Program} {l : Launch} {e : Env} {s : State} {m : MethodId} {args : Array Value} {below : List Frame} {meth : Method} {c : Code} {G : zg_T} {Q : State → Prop} (C : zx_C p s m args meth c G RJ7 cJ7_fill_53178 4) (f1 : Int32) (f3 : Int32) (oS : zs_T) (kont : ∀ (H : Heap) (locs : List Loc) (ls : Array Slot), zg_W G oS s H locs → lv_has ls 4 [] → W p l e zr_m_J7_fill_53178 s m args below meth c H locs 0 0 Q (F0 m 20 ls [])) : ∀ (n : Nat) (S : zs_T) (x2 : Int32), zl_2 (zb_J7_fill_53178_5 7 8 f1 f3) n S x2 = some oS → ∀ (H : Heap) (locs : List Loc) (ls : Array Slot), zg_W G S s H locs → lv_has ls 4 [(0, .ref (zg_q G 7)), (1, .int f1), (2, .int x2), (3, .int f3)] → W p l e zr_m_J7_fill_53178 s m args below meth c H locs 0 0 Q (F0 m 5 ls []) := by
  intro n
  induction n with
  | zero => intro S x2 h; cases h
  | succ n ih =>
    intro S x2 h H locs ls w hl
    replace h : zb_J7_fill_53178_5 7 8 f1 f3 (zl_2 (zb_J7_fill_53178_5 7 8 f1 f3) n) S x2 = some oS := h
    generalize zl_2 (zb_J7_fill_53178_5 7 8 f1 f3) n = rec at ih h
    unfold zb_J7_fill_53178_5 at h
    refine lv_iload_n C.1 C.2.1 dJ7_fill_53178_5 rfl (lv_at hl 2 rfl) ?_
    refine lv_iload_n C.1 C.2.1 dJ7_fill_53178_6 rfl (lv_at hl 3 rfl) ?_
    refine zr_ic_ge (tgt := 20) C dJ7_fill_53178_7 (by decide) h (fun h => ?_) (fun h => ?_)
    · cases h
      exact kont _ _ _ w (lv_sub hl [] rfl)
    · refine lv_aload_n C.1 C.2.1 dJ7_fill_53178_10 rfl (lv_at hl 0 rfl) ?_
      refine lv_iload_n C.1 C.2.1 dJ7_fill_53178_11 rfl (lv_at hl 2 rfl) ?_
      refine lv_iload_n C.1 C.2.1 dJ7_fill_53178_12 rfl (lv_at hl 1 rfl) ?_
      refine zr_iast C w 7 (zw_g7 G _) (zw_s7 G _) dJ7_fill_53178_13 h (fun S2 H locs w h => ?_)
      obtain ⟨v3, e_, h⟩ := zc_lt_x h
      refine lv_iinc (v := v3) (lv' := [(2, .int v3), (0, .ref (zg_q G 7)), (1, .int f1), (3, .int f3)]) C.1 C.2.1 dJ7_fill_53178_14 hl (k := 2) rfl (by subst e_; rfl) (by decide) rfl (fun ls hl => ?_)
      clear e_
      refine lv_goto (tgt := 5) C.1 C.2.1 dJ7_fill_53178_17 (by decide) ?_
      exact ih _ _ h _ _ _ w (lv_sub hl [1, 2, 0, 3] rfl)
set_option maxHeartbeats 4000000 in
set_option maxRecDepth 100000 in
theorem zm_J7_fill_53178_7 (l : Launch) (G : zg_T) (S : zs_T) (a1 : Int32) (S1 : zs_T) (h : zf_J7_fill_53178 7 8 S a1 = some S1) : Met l yJ7_fill_53178 (Cond.code yJ7_fill_53178 cJ7_fill_53178 4 none :: zt_G) zr_m_J7_fill_53178 (va_Pc [.ref (zg_q G 7), .int a1] (zg_P G S)) (zg_Q G none S1) 0 0 (zg_A G) := by
  refine zx_met (by decide +kernel) (Nat.le_of_ble_eq_true rfl) (lv := [(0, .ref (zg_q G 7)), (1, .int a1)]) rfl ?_
  intro p e s m below meth c C hr w ls hl
  replace C : zx_C p s m _ meth c G RJ7 cJ7_fill_53178 4 := C
  unfold zf_J7_fill_53178 at h
  refine lv_iconst (v := 0) C.1 C.2.1 dJ7_fill_53178_0 (by decide) ?_
  refine lv_istore_n (lv' := [(2, .int (0 : Int32)), (0, .ref (zg_q G 7)), (1, .int a1)]) C.1 C.2.1 dJ7_fill_53178_1 rfl hl (by decide) rfl (fun ls hl => ?_)
  refine lv_aload_n C.1 C.2.1 dJ7_fill_53178_2 rfl (lv_at hl 1 rfl) ?_
  refine zr_alen C w 7 (zw_g7 G _) rfl dJ7_fill_53178_3 ?_
  refine zr_lti h (fun v1 h => ?_)
  refine lv_istore_n (lv' := [(3, .int v1), (2, .int (0 : Int32)), (0, .ref (zg_q G 7)), (1, .int a1)]) C.1 C.2.1 dJ7_fill_53178_4 rfl hl (by decide) rfl (fun ls hl => ?_)
  obtain ⟨S4, hc, h⟩ := zc_b1_x h
  refine zk_J7_fill_53178_5_7 C a1 v1 S4 (fun H locs ls w hl => ?_) _ _ _ hc _ _ _ w (lv_sub hl [2, 3, 1, 0] rfl)
  clear hc
  exact zr_retv C w hr dJ7_fill_53178_20 (Option.some.inj h)
set_option maxHeartbeats 4000000 in
set_option maxRecDepth 100000 in
theorem zm_X1_forget (l : Launch) (G : zg_T) (S : zs_T) (S1 : zs_T) (h : zf_X1_forget S = some S1) : Met l yX1_forget (Cond.code yX1_forget cX1_forget 1 none :: zt_G) zr_m_X1_forget (va_Pc [.ref (zg_q G 5)] (zg_P G S)) (zg_Q G none S1) 0 0 (zg_A G) := by
  refine zx_met (by decide +kernel) (Nat.le_of_ble_eq_true rfl) (lv := [(0, .ref (zg_q G 5))]) rfl ?_
  intro p e s m below meth c C hr w ls hl
  replace C : zx_C p s m _ meth c G RX1 cX1_forget 1 := C
  unfold zf_X1_forget at h
  refine lv_aload_n C.1 C.2.1 dX1_forget_0 rfl (lv_at hl 0 rfl) ?_
  refine zr_get C w 5 zm_w_X1 (zw_g5 G _) rfl 0 (by decide) zm_f_X1_12 rfl dX1_forget_1 ?_
  obtain ⟨S1, hc, h⟩ := zc_b1_x h
  refine zr_callVv C w 8 (zw_g8 G _) rfl (As := []) (zm_X3_forget l G _ _ hc) zm_c_X3_forget zm_l_X1_92 zm_i_X3_forget zm_e_X3_forget zm_0_X3 zm_d_X3_forget ⟨rfl, rfl⟩ ⟨Nat.le_of_ble_eq_true rfl, Nat.le_of_ble_eq_true rfl⟩ hl.1 rfl rfl (Nat.le_of_ble_eq_true rfl) dX1_forget_4 ⟨Nat.le_of_ble_eq_true rfl, Nat.le_of_ble_eq_true rfl⟩ (fun H locs w => ?_)
  clear hc
  refine lv_aload_n C.1 C.2.1 dX1_forget_7 rfl (lv_at hl 0 rfl) ?_
  refine zr_get C w 5 zm_w_X1 (zw_g5 G _) rfl 2 (by decide) zm_f_X1_28 rfl dX1_forget_8 ?_
  obtain ⟨S2, hc, h⟩ := zc_b1_x h
  refine zr_callVv C w 15 (zw_g15 G _) rfl (As := []) (zm_X2_forget_15 l G _ _ hc) zm_c_X2_forget zm_l_X1_95 zm_i_X2_forget zm_e_X2_forget zm_0_X2 zm_d_X2_forget ⟨rfl, rfl⟩ ⟨Nat.le_of_ble_eq_true rfl, Nat.le_of_ble_eq_true rfl⟩ hl.1 rfl rfl (Nat.le_of_ble_eq_true rfl) dX1_forget_11 ⟨Nat.le_of_ble_eq_true rfl, Nat.le_of_ble_eq_true rfl⟩ (fun H locs w => ?_)
  clear hc
  refine lv_aload_n C.1 C.2.1 dX1_forget_14 rfl (lv_at hl 0 rfl) ?_
  refine zr_get C w 5 zm_w_X1 (zw_g5 G _) rfl 3 (by decide) zm_f_X1_35 rfl dX1_forget_15 ?_
  obtain ⟨S3, hc, h⟩ := zc_b1_x h
  refine zr_callVv C w 19 (zw_g19 G _) rfl (As := []) (zm_X5_forget_19 l G _ _ hc) zm_c_X5_forget zm_l_X1_96 zm_i_X5_forget zm_e_X5_forget zm_0_X5 zm_d_X5_forget ⟨rfl, rfl⟩ ⟨Nat.le_of_ble_eq_true rfl, Nat.le_of_ble_eq_true rfl⟩ hl.1 rfl rfl (Nat.le_of_ble_eq_true rfl) dX1_forget_18 ⟨Nat.le_of_ble_eq_true rfl, Nat.le_of_ble_eq_true rfl⟩ (fun H locs w => ?_)
  clear hc
  refine lv_aload_n C.1 C.2.1 dX1_forget_21 rfl (lv_at hl 0 rfl) ?_
  refine zr_get C w 5 zm_w_X1 (zw_g5 G _) rfl 8 (by decide) zm_f_X1_64 rfl dX1_forget_22 ?_
  refine lv_iconst (v := 0) C.1 C.2.1 dX1_forget_25 (by decide) ?_
  obtain ⟨S4, hc, h⟩ := zc_b1_x h
  refine zr_callSv C w (As := [.ref (zg_q G 7), .int (0 : Int32)]) (zm_J7_fill_53178_7 l G _ _ _ hc) zm_c_J7_fill_53178 zm_l_X1_97 zm_s_J7_fill_53178 zm_0_J7 zm_d_J7_fill_53178 ⟨rfl, rfl⟩ ⟨Nat.le_of_ble_eq_true rfl, Nat.le_of_ble_eq_true rfl⟩ hl.1 rfl rfl (Nat.le_of_ble_eq_true rfl) dX1_forget_26 ⟨Nat.le_of_ble_eq_true rfl, Nat.le_of_ble_eq_true rfl⟩ (fun H locs w => ?_)
  clear hc
  refine lv_aload_n C.1 C.2.1 dX1_forget_29 rfl (lv_at hl 0 rfl) ?_
  refine lv_iconst (v := 0) C.1 C.2.1 dX1_forget_30 (by decide) ?_
  refine zr_put C w 5 zm_w_X1 tyX1 tyX1_ok nmX1 (zw_g5 G _) rfl 9 (by decide) zm_f_X1_88 rfl (ty := .int) (by decide +kernel) rfl rfl (Nat.le_of_ble_eq_true rfl) (zw_f5_9 G _ _) dX1_forget_31 h (fun S5 H locs w h => ?_)
  exact zr_retv C w hr dX1_forget_34 (Option.some.inj h)
set_option maxHeartbeats 4000000 in
set_option maxRecDepth 100000 in
theorem zk_X7_scaleBy_36_38 {p : Program} {l : Launch} {e : Env} {s : State} {m : MethodId} {args : Array Value} {below : List Frame} {meth : Method} {c : Code} {G : zg_T} {Q : State → Prop} (C : zx_C p s m args meth c G RX7 cX7_scaleBy 5) (S : zs_T) (o2 : Int32) (o3 : Int32) (kont : ∀ (H : Heap) (locs : List Loc) (ls : Array Slot), zg_W G S s H locs → lv_has ls 5 [(0, .ref (zg_q G 38)), (2, .int o2), (3, .int o3)] → W p l e zr_m_X7_scaleBy s m args below meth c H locs 0 0 Q (F0 m 63 ls [])) : ∀ (n : Nat) (x2 : Int32) (x3 : Int32) (x4 : Int32), zl_3 (zb_X7_scaleBy_36 38 S) n x2 x3 x4 = some (o2, o3) → ∀ (H : Heap) (locs : List Loc) (ls : Array Slot), zg_W G S s H locs → lv_has ls 5 [(0, .ref (zg_q G 38)), (2, .int x2), (3, .int x3), (4, .int x4)] → W p l e zr_m_X7_scaleBy s m args below meth c H locs 0 0 Q (F0 m 36 ls []) := by
  intro n
  induction n with
  | zero => intro x2 x3 x4 h; cases h
  | succ n ih =>
    intro x2 x3 x4 h H locs ls w hl
    replace h : zb_X7_scaleBy_36 38 S (zl_3 (zb_X7_scaleBy_36 38 S) n) x2 x3 x4 = some (o2, o3) := h
    generalize zl_3 (zb_X7_scaleBy_36 38 S) n = rec at ih h
    unfold zb_X7_scaleBy_36 at h
    refine lv_iload C.1 C.2.1 dX7_scaleBy_36 (lv_at hl 3 rfl) ?_
    refine lv_iconst (v := 3) C.1 C.2.1 dX7_scaleBy_38 (by decide) ?_
    refine zr_ic_ge (tgt := 63) C dX7_scaleBy_39 (by decide) h (fun h => ?_) (fun h => ?_)
    · cases h
      exact kont _ _ _ w (lv_sub hl [0, 1, 2] rfl)
    · refine lv_iload_n C.1 C.2.1 dX7_scaleBy_42 rfl (lv_at hl 2 rfl) ?_
      refine lv_bipush (v := 7) C.1 C.2.1 dX7_scaleBy_43 (by decide) ?_
      refine zr_ic_gt (tgt := 63) C dX7_scaleBy_45 (by decide) h (fun h => ?_) (fun h => ?_)
      · cases h
        exact kont _ _ _ w (lv_sub hl [0, 1, 2] rfl)
      · refine lv_iconst (v := 2) C.1 C.2.1 dX7_scaleBy_48 (by decide) ?_
        refine lv_iload_n C.1 C.2.1 dX7_scaleBy_49 rfl (lv_at hl 2 rfl) ?_
        refine lv_imul C.1 C.2.1 dX7_scaleBy_50 ?_
        refine lv_iconst (v := 1) C.1 C.2.1 dX7_scaleBy_51 (by decide) ?_
        refine lv_iadd C.1 C.2.1 dX7_scaleBy_52 ?_
        refine zr_lti h (fun v2 h => ?_)
        refine lv_istore_n (lv' := [(3, .int v2), (0, .ref (zg_q G 38)), (2, .int x2), (4, .int x4)]) C.1 C.2.1 dX7_scaleBy_53 rfl hl (by decide) rfl (fun ls hl => ?_)
        obtain ⟨v3, e_, h⟩ := zc_lt_x h
        refine lv_iinc (v := v3) (lv' := [(2, .int v3), (3, .int v2), (0, .ref (zg_q G 38)), (4, .int x4)]) C.1 C.2.1 dX7_scaleBy_54 hl (k := 2) rfl (by subst e_; rfl) (by decide) rfl (fun ls hl => ?_)
        clear e_
        obtain ⟨v4, e_, h⟩ := zc_lt_x h
        refine lv_iinc (v := v4) (lv' := [(4, .int v4), (2, .int v3), (3, .int v2), (0, .ref (zg_q G 38))]) C.1 C.2.1 dX7_scaleBy_57 hl (k := 3) rfl (by subst e_; rfl) (by decide) rfl (fun ls hl => ?_)
        clear e_
        refine lv_goto (tgt := 36) C.1 C.2.1 dX7_scaleBy_60 (by decide) ?_
        exact ih _ _ _ h _ _ _ w (lv_sub hl [3, 1, 2, 0] rfl)
set_option maxHeartbeats 4000000 in
set_option maxRecDepth 100000 in
theorem zq_X7_scaleBy_63_38 {p : Program} {l : Launch} {e : Env} {s : State} {m : MethodId} {args : Array Value} {below : List Frame} {meth : Method} {c : Code} {G : zg_T} (hr : meth.sig.returnType = none) (C : zx_C p s m args meth c G RX7 cX7_scaleBy 5) (S1 : zs_T) (S : zs_T) (y2 : Int32) (y3 : Int32) (h : zj_X7_scaleBy_63 38 S y2 y3 = some S1) (H : Heap) (locs : List Loc) (ls : Array Slot) (w : zg_W G S s H locs) (hl : lv_has ls 5 [(0, .ref (zg_q G 38)), (2, .int y2), (3, .int y3)]) : W p l e zr_m_X7_scaleBy s m args below meth c H locs 0 0 (MQ below (zg_Q G none S1) args s 0 0 (zg_A G)) (F0 m 63 ls []) := by
  unfold zj_X7_scaleBy_63 at h
  refine lv_aload_n C.1 C.2.1 dX7_scaleBy_63 rfl (lv_at hl 0 rfl) ?_
  refine lv_bipush (v := 6) C.1 C.2.1 dX7_scaleBy_64 (by decide) ?_
  refine lv_iload_n C.1 C.2.1 dX7_scaleBy_66 rfl (lv_at hl 1 rfl) ?_
  refine lv_isub C.1 C.2.1 dX7_scaleBy_67 ?_
  refine zr_put C w 38 zm_w_X7 tyX7 tyX7_ok nmX7 (zw_g38 G _) rfl 1 (by decide) zm_f_X7_15 rfl (ty := .int) (by decide +kernel) rfl rfl (Nat.le_of_ble_eq_true rfl) (zw_f38_1 G _ _) dX7_scaleBy_68 h (fun S7 H locs w h => ?_)
  refine lv_aload_n C.1 C.2.1 dX7_scaleBy_71 rfl (lv_at hl 0 rfl) ?_
  refine lv_iload_n C.1 C.2.1 dX7_scaleBy_72 rfl (lv_at hl 2 rfl) ?_
  refine lv_bipush (v := 8) C.1 C.2.1 dX7_scaleBy_73 (by decide) ?_
  refine lv_isub C.1 C.2.1 dX7_scaleBy_75 ?_
  refine zr_put C w 38 zm_w_X7 tyX7 tyX7_ok nmX7 (zw_g38 G _) rfl 2 (by decide) zm_f_X7_19 rfl (ty := .int) (by decide +kernel) rfl rfl (Nat.le_of_ble_eq_true rfl) (zw_f38_2 G _ _) dX7_scaleBy_76 h (fun S8 H locs w h => ?_)
  exact zr_retv C w hr dX7_scaleBy_79 (Option.some.inj h)
set_option maxHeartbeats 4000000 in
set_option maxRecDepth 100000 in
theorem zq_X7_scaleBy_33_38 {p : Program} {l : Launch} {e : Env} {s : State} {m : MethodId} {args : Array Value} {below : List Frame} {meth : Method} {c : Code} {G : zg_T} (hr : meth.sig.returnType = none) (C : zx_C p s m args meth c G RX7 cX7_scaleBy 5) (S1 : zs_T) (S : zs_T) (y2 : Int32) (y3 : Int32) (h : zj_X7_scaleBy_33 38 S y2 y3 = some S1) (H : Heap) (locs : List Loc) (ls : Array Slot) (w : zg_W G S s H locs) (hl : lv_has ls 5 [(0, .ref (zg_q G 38)), (2, .int y2), (3, .int y3)]) : W p l e zr_m_X7_scaleBy s m args below meth c H locs 0 0 (MQ below (zg_Q G none S1) args s 0 0 (zg_A G)) (F0 m 33 ls []) := by
  unfold zj_X7_scaleBy_33 at h
  refine lv_iconst (v := 0) C.1 C.2.1 dX7_scaleBy_33 (by decide) ?_
  refine lv_istore (lv' := [(4, .int (0 : Int32)), (0, .ref (zg_q G 38)), (2, .int y2), (3, .int y3)]) C.1 C.2.1 dX7_scaleBy_34 hl (by decide) rfl (fun ls hl => ?_)
  obtain ⟨v5, v6, hc, h⟩ := zc_b2_x h
  refine zk_X7_scaleBy_36_38 C _ v5 v6 (fun H locs ls w hl => ?_) _ _ _ _ hc _ _ _ w (lv_sub hl [1, 2, 3, 0] rfl)
  clear hc
  exact zq_X7_scaleBy_63_38 hr C _ _ _ _ h _ _ _ w (lv_sub hl [0, 1, 2] rfl)
set_option maxHeartbeats 4000000 in
set_option maxRecDepth 100000 in
theorem zq_X7_scaleBy_15_38 {p : Program} {l : Launch} {e : Env} {s : State} {m : MethodId} {args : Array Value} {below : List Frame} {meth : Method} {c : Code} {G : zg_T} (hr : meth.sig.returnType = none) (C : zx_C p s m args meth c G RX7 cX7_scaleBy 5) (S1 : zs_T) (S : zs_T) (y1 : Int32) (z0 : Int32) (h : zj_X7_scaleBy_15 38 S y1 z0 = some S1) (H : Heap) (locs : List Loc) (ls : Array Slot) (w : zg_W G S s H locs) (hl : lv_has ls 5 [(0, .ref (zg_q G 38)), (1, .int y1)]) : W p l e zr_m_X7_scaleBy s m args below meth c H locs 0 0 (MQ below (zg_Q G none S1) args s 0 0 (zg_A G)) (F0 m 15 ls [.int z0]) := by
  unfold zj_X7_scaleBy_15 at h
  refine lv_istore_n (lv' := [(2, .int z0), (0, .ref (zg_q G 38)), (1, .int y1)]) C.1 C.2.1 dX7_scaleBy_15 rfl hl (by decide) rfl (fun ls hl => ?_)
  refine lv_iload_n C.1 C.2.1 dX7_scaleBy_16 rfl (lv_at hl 2 rfl) ?_
  refine lv_bipush (v := 8) C.1 C.2.1 dX7_scaleBy_17 (by decide) ?_
  refine lv_iload_n C.1 C.2.1 dX7_scaleBy_19 rfl (lv_at hl 0 rfl) ?_
  refine lv_imul C.1 C.2.1 dX7_scaleBy_20 ?_
  refine lv_isub C.1 C.2.1 dX7_scaleBy_21 ?_
  refine zr_lti h (fun v1 h => ?_)
  refine lv_istore_n (lv' := [(3, .int v1), (2, .int z0), (0, .ref (zg_q G 38)), (1, .int y1)]) C.1 C.2.1 dX7_scaleBy_22 rfl hl (by decide) rfl (fun ls hl => ?_)
  refine lv_iload_n C.1 C.2.1 dX7_scaleBy_23 rfl (lv_at hl 0 rfl) ?_
  refine zr_if_ne (tgt := 33) C dX7_scaleBy_24 (by decide) h (fun h => ?_) (fun h => ?_)
  · exact zq_X7_scaleBy_33_38 hr C _ _ _ _ h _ _ _ w (lv_sub hl [2, 1, 0] rfl)
  · refine lv_bipush (v := -4) C.1 C.2.1 dX7_scaleBy_27 (by decide) ?_
    refine lv_istore_n (lv' := [(2, .int (-4 : Int32)), (3, .int v1), (0, .ref (zg_q G 38)), (1, .int y1)]) C.1 C.2.1 dX7_scaleBy_29 rfl hl (by decide) rfl (fun ls hl => ?_)
    refine lv_bipush (v := 15) C.1 C.2.1 dX7_scaleBy_30 (by decide) ?_
    refine lv_istore_n (lv' := [(3, .int (15 : Int32)), (2, .int (-4 : Int32)), (0, .ref (zg_q G 38)), (1, .int y1)]) C.1 C.2.1 dX7_scaleBy_32 rfl hl (by decide) rfl (fun ls hl => ?_)
    exact zq_X7_scaleBy_33_38 hr C _ _ _ _ h _ _ _ w (lv_sub hl [2, 1, 0] rfl)
set_option maxHeartbeats 4000000 in
set_option maxRecDepth 100000 in
theorem zm_X7_scaleBy_38 (l : Launch) (G : zg_T) (S : zs_T) (a1 : Int32) (S1 : zs_T) (h : zf_X7_scaleBy 38 S a1 = some S1) : Met l yX7_scaleBy (Cond.code yX7_scaleBy cX7_scaleBy 5 none :: zt_G) zr_m_X7_scaleBy (va_Pc [.ref (zg_q G 38), .int a1] (zg_P G S)) (zg_Q G none S1) 0 0 (zg_A G) := by
  refine zx_met (by decide +kernel) (Nat.le_of_ble_eq_true rfl) (lv := [(0, .ref (zg_q G 38)), (1, .int a1)]) rfl ?_
  intro p e s m below meth c C hr w ls hl
  replace C : zx_C p s m _ meth c G RX7 cX7_scaleBy 5 := C
  unfold zf_X7_scaleBy at h
  refine lv_iload_n C.1 C.2.1 dX7_scaleBy_0 rfl (lv_at hl 1 rfl) ?_
  refine lv_bipush (v := 15) C.1 C.2.1 dX7_scaleBy_1 (by decide) ?_
  refine zr_ic_le (tgt := 14) C dX7_scaleBy_3 (by decide) h (fun h => ?_) (fun h => ?_)
  · refine lv_iconst (v := 0) C.1 C.2.1 dX7_scaleBy_14 (by decide) ?_
    exact zq_X7_scaleBy_15_38 hr C _ _ _ _ h _ _ _ w (lv_sub hl [0, 1] rfl)
  · refine lv_iload_n C.1 C.2.1 dX7_scaleBy_6 rfl (lv_at hl 1 rfl) ?_
    refine lv_iconst (v := 3) C.1 C.2.1 dX7_scaleBy_7 (by decide) ?_
    refine lv_ishr C.1 C.2.1 dX7_scaleBy_8 ?_
    refine lv_iconst (v := 1) C.1 C.2.1 dX7_scaleBy_9 (by decide) ?_
    refine lv_isub C.1 C.2.1 dX7_scaleBy_10 ?_
    refine lv_goto (tgt := 15) C.1 C.2.1 dX7_scaleBy_11 (by decide) ?_
    exact zq_X7_scaleBy_15_38 hr C _ _ _ _ h _ _ _ w (lv_sub hl [0, 1] rfl)
