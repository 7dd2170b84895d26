set_option maxHeartbeats 4000000 in
set_option maxRecDepth 100000 in
theorem zk_X10_pack_34 {p : Program} {l : Launch} {e : Env} {s : State} {m : MethodId} {args : Array Value} {below : List Frame} {meth : Method} {c : Code} {G : zg_T} {Q : State → Prop} (C : zx_C p s m args meth c G RX10 cX10_pack 5) (f2 : Int32) (oS : zs_T) (o1 : Int32) (kont : ∀ (H : Heap) (locs : List Loc) (ls : Array Slot), zg_W G oS s H locs → lv_has ls 5 [(0, .ref (zg_q G 0)), (1, .int o1), (2, .int f2)] → W p l e zr_m_X10_pack s m args below meth c H locs 0 0 Q (F0 m 80 ls [])) : ∀ (n : Nat) (S : zs_T) (x1 : Int32) (x3 : Int32), zl_3 (zb_X10_pack_34 f2) n S x1 x3 = some (oS, o1) → ∀ (H : Heap) (locs : List Loc) (ls : Array Slot), zg_W G S s H locs → lv_has ls 5 [(0, .ref (zg_q G 0)), (1, .int x1), (2, .int f2), (3, .int x3)] → W p l e zr_m_X10_pack s m args below meth c H locs 0 0 Q (F0 m 34 ls []) := by
  intro n
  induction n with
  | zero => intro S x1 x3 h; cases h
  | succ n ih =>
    intro S x1 x3 h H locs ls w hl
    replace h : zb_X10_pack_34 f2 (zl_3 (zb_X10_pack_34 f2) n) S x1 x3 = some (oS, o1) := h
    generalize zl_3 (zb_X10_pack_34 f2) n = rec at ih h
    unfold zb_X10_pack_34 at h
    refine lv_iload_n C.1 C.2.1 dX10_pack_34 rfl (lv_at hl 3 rfl) ?_
    refine zr_if_lt (tgt := 80) C dX10_pack_35 (by decide) h (fun h => ?_) (fun h => ?_)
    · cases h
      exact kont _ _ _ w (lv_sub hl [0, 1, 2] rfl)
    · refine lv_aload_n C.1 C.2.1 dX10_pack_38 rfl (lv_at hl 0 rfl) ?_
      refine zr_get C w 0 zm_w_X10 (zw_g0 G _) rfl 2 (by decide) zm_f_X10_16 rfl dX10_pack_39 ?_
      refine lv_iload_n C.1 C.2.1 dX10_pack_42 rfl (lv_at hl 2 rfl) ?_
      refine zr_iald C w 3 (zw_g3 G _) dX10_pack_43 h (fun h => ?_)
      refine lv_iload_n C.1 C.2.1 dX10_pack_44 rfl (lv_at hl 3 rfl) ?_
      refine lv_ishr C.1 C.2.1 dX10_pack_45 ?_
      refine lv_iconst (v := 1) C.1 C.2.1 dX10_pack_46 (by decide) ?_
      refine lv_iand C.1 C.2.1 dX10_pack_47 ?_
      refine zr_lti h (fun v5 h => ?_)
      refine lv_istore (lv' := [(4, .int v5), (0, .ref (zg_q G 0)), (1, .int x1), (2, .int f2), (3, .int x3)]) C.1 C.2.1 dX10_pack_48 hl (by decide) rfl (fun ls hl => ?_)
      refine lv_aload_n C.1 C.2.1 dX10_pack_50 rfl (lv_at hl 1 rfl) ?_
      refine zr_get C w 0 zm_w_X10 (zw_g0 G _) rfl 1 (by decide) zm_f_X10_13 rfl dX10_pack_51 ?_
      refine lv_iload_n C.1 C.2.1 dX10_pack_54 rfl (lv_at hl 2 rfl) ?_
      refine lv_iconst (v := 3) C.1 C.2.1 dX10_pack_55 (by decide) ?_
      refine lv_ishr C.1 C.2.1 dX10_pack_56 ?_
      refine zr_lti h (fun v6 h => ?_)
      refine lv_dup2_11 C.1 C.2.1 dX10_pack_57 rfl rfl ?_
      refine zr_iald C w 2 (zw_g2 G _) dX10_pack_58 h (fun h => ?_)
      refine lv_iload C.1 C.2.1 dX10_pack_59 (lv_at hl 0 rfl) ?_
      refine lv_bipush (v := 7) C.1 C.2.1 dX10_pack_61 (by decide) ?_
      refine lv_iload_n C.1 C.2.1 dX10_pack_63 rfl (lv_at hl 2 rfl) ?_
      refine lv_bipush (v := 7) C.1 C.2.1 dX10_pack_64 (by decide) ?_
      refine lv_iand C.1 C.2.1 dX10_pack_66 ?_
      refine lv_isub C.1 C.2.1 dX10_pack_67 ?_
      refine lv_ishl C.1 C.2.1 dX10_pack_68 ?_
      refine lv_ior C.1 C.2.1 dX10_pack_69 ?_
      refine zr_iast C w 2 (zw_g2 G _) (zw_s2 G _) dX10_pack_70 h (fun S7 H locs w h => ?_)
      obtain ⟨v8, e_, h⟩ := zc_lt_x h
      refine lv_iinc (v := v8) (lv' := [(1, .int v8), (4, .int v5), (0, .ref (zg_q G 0)), (2, .int f2), (3, .int x3)]) C.1 C.2.1 dX10_pack_71 hl (k := 2) rfl (by subst e_; rfl) (by decide) rfl (fun ls hl => ?_)
      clear e_
      obtain ⟨v9, e_, h⟩ := zc_lt_x h
      refine lv_iinc (v := v9) (lv' := [(3, .int v9), (1, .int v8), (4, .int v5), (0, .ref (zg_q G 0)), (2, .int f2)]) C.1 C.2.1 dX10_pack_74 hl (k := 4) rfl (by subst e_; rfl) (by decide) rfl (fun ls hl => ?_)
      clear e_
      refine lv_goto (tgt := 34) C.1 C.2.1 dX10_pack_77 (by decide) ?_
      exact ih _ _ _ h _ _ _ w (lv_sub hl [3, 1, 4, 0] rfl)
set_option maxHeartbeats 4000000 in
set_option maxRecDepth 100000 in
theorem zk_X10_pack_21 {p : Program} {l : Launch} {e : Env} {s : State} {m : MethodId} {args : Array Value} {below : List Frame} {meth : Method} {c : Code} {G : zg_T} {Q : State → Prop} (C : zx_C p s m args meth c G RX10 cX10_pack 5) (oS : zs_T) (kont : ∀ (H : Heap) (locs : List Loc) (ls : Array Slot), zg_W G oS s H locs → lv_has ls 5 [] → W p l e zr_m_X10_pack s m args below meth c H locs 0 0 Q (F0 m 86 ls [])) : ∀ (n : Nat) (S : zs_T) (x1 : Int32) (x2 : Int32), zl_3 (zb_X10_pack_21) n S x1 x2 = some oS → ∀ (H : Heap) (locs : List Loc) (ls : Array Slot), zg_W G S s H locs → lv_has ls 5 [(0, .ref (zg_q G 0)), (1, .int x1), (2, .int x2)] → W p l e zr_m_X10_pack s m args below meth c H locs 0 0 Q (F0 m 21 ls []) := by
  intro n
  induction n with
  | zero => intro S x1 x2 h; cases h
  | succ n ih =>
    intro S x1 x2 h H locs ls w hl
    replace h : zb_X10_pack_21 (zl_3 (zb_X10_pack_21) n) S x1 x2 = some oS := h
    generalize zl_3 (zb_X10_pack_21) n = rec at ih h
    unfold zb_X10_pack_21 at h
    refine lv_iload_n C.1 C.2.1 dX10_pack_21 rfl (lv_at hl 2 rfl) ?_
    refine lv_bipush (v := 76) C.1 C.2.1 dX10_pack_22 (by decide) ?_
    refine zr_ic_ge (tgt := 86) C dX10_pack_24 (by decide) h (fun h => ?_) (fun h => ?_)
    · cases h
      exact kont _ _ _ w (lv_sub hl [] rfl)
    · refine lv_iload_n C.1 C.2.1 dX10_pack_27 rfl (lv_at hl 2 rfl) ?_
      obtain ⟨v3, hc, h⟩ := zc_b1_x h
      refine zr_callSi C w (As := [.int x2]) (zm_X10_bitsOf l G _ _ _ hc) zm_c_X10_bitsOf zm_l_X10_153 zm_s_X10_bitsOf zm_0_X10 zm_d_X10_bitsOf ⟨rfl, rfl⟩ ⟨Nat.le_of_ble_eq_true rfl, Nat.le_of_ble_eq_true rfl⟩ hl.1 rfl rfl (Nat.le_of_ble_eq_true rfl) dX10_pack_28 ⟨Nat.le_of_ble_eq_true rfl, Nat.le_of_ble_eq_true rfl⟩ (fun H locs w => ?_)
      clear hc
      refine lv_iconst (v := 1) C.1 C.2.1 dX10_pack_31 (by decide) ?_
      refine lv_isub C.1 C.2.1 dX10_pack_32 ?_
      refine zr_lti h (fun v4 h => ?_)
      refine lv_istore_n (lv' := [(3, .int v4), (0, .ref (zg_q G 0)), (1, .int x1), (2, .int x2)]) C.1 C.2.1 dX10_pack_33 rfl hl (by decide) rfl (fun ls hl => ?_)
      obtain ⟨S10, v11, hc, h⟩ := zc_b2_x h
      refine zk_X10_pack_34 C x2 S10 v11 (fun H locs ls w hl => ?_) _ _ _ _ hc _ _ _ w (lv_sub hl [1, 2, 3, 0] rfl)
      clear hc
      obtain ⟨v12, e_, h⟩ := zc_lt_x h
      refine lv_iinc (v := v12) (lv' := [(2, .int v12), (0, .ref (zg_q G 0)), (1, .int v11)]) C.1 C.2.1 dX10_pack_80 hl (k := 2) rfl (by subst e_; rfl) (by decide) rfl (fun ls hl => ?_)
      clear e_
      refine lv_goto (tgt := 21) C.1 C.2.1 dX10_pack_83 (by decide) ?_
      exact ih _ _ _ h _ _ _ w (lv_sub hl [1, 2, 0] rfl)
set_option maxHeartbeats 4000000 in
set_option maxRecDepth 100000 in
theorem zm_X10_pack (l : Launch) (G : zg_T) (S : zs_T) (S1 : zs_T) (h : zf_X10_pack S = some S1) : Met l yX10_pack (Cond.code yX10_pack cX10_pack 5 none :: zt_G) zr_m_X10_pack (va_Pc [.ref (zg_q G 0)] (zg_P G S)) (zg_Q G none S1) 0 0 (zg_A G) := by
  refine zx_met (by decide +kernel) (Nat.le_of_ble_eq_true rfl) (lv := [(0, .ref (zg_q G 0))]) rfl ?_
  intro p e s m below meth c C hr w ls hl
  replace C : zx_C p s m _ meth c G RX10 cX10_pack 5 := C
  unfold zf_X10_pack at h
  refine lv_aload_n C.1 C.2.1 dX10_pack_0 rfl (lv_at hl 0 rfl) ?_
  refine zr_get C w 0 zm_w_X10 (zw_g0 G _) rfl 1 (by decide) zm_f_X10_13 rfl dX10_pack_1 ?_
  refine lv_iconst (v := 0) C.1 C.2.1 dX10_pack_4 (by decide) ?_
  obtain ⟨S1, hc, h⟩ := zc_b1_x h
  refine zr_callSv C w (As := [.ref (zg_q G 2), .int (0 : Int32)]) (zm_J7_fill_53178_2 l G _ _ _ hc) zm_c_J7_fill_53178 zm_l_X10_92 zm_s_J7_fill_53178 zm_0_J7 zm_d_J7_fill_53178 ⟨rfl, rfl⟩ ⟨Nat.le_of_ble_eq_true rfl, Nat.le_of_ble_eq_true rfl⟩ hl.1 rfl rfl (Nat.le_of_ble_eq_true rfl) dX10_pack_5 ⟨Nat.le_of_ble_eq_true rfl, Nat.le_of_ble_eq_true rfl⟩ (fun H locs w => ?_)
  clear hc
  refine lv_aload_n C.1 C.2.1 dX10_pack_8 rfl (lv_at hl 0 rfl) ?_
  refine zr_get C w 0 zm_w_X10 (zw_g0 G _) rfl 1 (by decide) zm_f_X10_13 rfl dX10_pack_9 ?_
  refine lv_iconst (v := 0) C.1 C.2.1 dX10_pack_12 (by decide) ?_
  refine lv_sipush (v := 208) C.1 C.2.1 dX10_pack_13 (by decide) ?_
  refine zr_iast C w 2 (zw_g2 G _) (zw_s2 G _) dX10_pack_16 h (fun S2 H locs w h => ?_)
  refine lv_iconst (v := 4) C.1 C.2.1 dX10_pack_17 (by decide) ?_
  refine lv_istore_n (lv' := [(1, .int (4 : Int32)), (0, .ref (zg_q G 0))]) C.1 C.2.1 dX10_pack_18 rfl hl (by decide) rfl (fun ls hl => ?_)
  refine lv_iconst (v := 0) C.1 C.2.1 dX10_pack_19 (by decide) ?_
  refine lv_istore_n (lv' := [(2, .int (0 : Int32)), (1, .int (4 : Int32)), (0, .ref (zg_q G 0))]) C.1 C.2.1 dX10_pack_20 rfl hl (by decide) rfl (fun ls hl => ?_)
  obtain ⟨S13, hc, h⟩ := zc_b1_x h
  refine zk_X10_pack_21 C S13 (fun H locs ls w hl => ?_) _ _ _ _ hc _ _ _ w (lv_sub hl [2, 1, 0] rfl)
  clear hc
  exact zr_retv C w hr dX10_pack_86 (Option.some.inj h)
set_option maxHeartbeats 4000000 in
set_option maxRecDepth 100000 in
theorem zk_X10_unpack_20 {p : Program} {l : Launch} {e : Env} {s : State} {m : MethodId} {args : Array Value} {below : List Frame} {meth : Method} {c : Code} {G : zg_T} {Q : State → Prop} (C : zx_C p s m args meth c G RX10 cX10_unpack 6) (S : zs_T) (f2 : Int32) (o1 : Int32) (o3 : Int32) (kont : ∀ (H : Heap) (locs : List Loc) (ls : Array Slot), zg_W G S s H locs → lv_has ls 6 [(0, .ref (zg_q G 0)), (1, .int o1), (2, .int f2), (3, .int o3)] → W p l e zr_m_X10_unpack s m args below meth c H locs 0 0 Q (F0 m 61 ls [])) : ∀ (n : Nat) (x1 : Int32) (x3 : Int32) (x4 : Int32), zl_3 (zb_X10_unpack_20 S) n x1 x3 x4 = some (o1, o3) → ∀ (H : Heap) (locs : List Loc) (ls : Array Slot), zg_W G S s H locs → lv_has ls 6 [(0, .ref (zg_q G 0)), (1, .int x1), (2, .int f2), (3, .int x3), (4, .int x4)] → W p l e zr_m_X10_unpack s m args below meth c H locs 0 0 Q (F0 m 20 ls []) := by
  intro n
  induction n with
  | zero => intro x1 x3 x4 h; cases h
  | succ n ih =>
    intro x1 x3 x4 h H locs ls w hl
    replace h : zb_X10_unpack_20 S (zl_3 (zb_X10_unpack_20 S) n) x1 x3 x4 = some (o1, o3) := h
    generalize zl_3 (zb_X10_unpack_20 S) n = rec at ih h
    unfold zb_X10_unpack_20 at h
    refine lv_iload C.1 C.2.1 dX10_unpack_20 (lv_at hl 4 rfl) ?_
    refine zr_if_lt (tgt := 61) C dX10_unpack_22 (by decide) h (fun h => ?_) (fun h => ?_)
    · cases h
      exact kont _ _ _ w (lv_sub hl [0, 1, 2, 3] rfl)
    · refine lv_aload_n C.1 C.2.1 dX10_unpack_25 rfl (lv_at hl 0 rfl) ?_
      refine zr_get C w 0 zm_w_X10 (zw_g0 G _) rfl 1 (by decide) zm_f_X10_13 rfl dX10_unpack_26 ?_
      refine lv_iload_n C.1 C.2.1 dX10_unpack_29 rfl (lv_at hl 1 rfl) ?_
      refine lv_iconst (v := 3) C.1 C.2.1 dX10_unpack_30 (by decide) ?_
      refine lv_ishr C.1 C.2.1 dX10_unpack_31 ?_
      refine zr_iald C w 2 (zw_g2 G _) dX10_unpack_32 h (fun h => ?_)
      refine lv_bipush (v := 7) C.1 C.2.1 dX10_unpack_33 (by decide) ?_
      refine lv_iload_n C.1 C.2.1 dX10_unpack_35 rfl (lv_at hl 1 rfl) ?_
      refine lv_bipush (v := 7) C.1 C.2.1 dX10_unpack_36 (by decide) ?_
      refine lv_iand C.1 C.2.1 dX10_unpack_38 ?_
      refine lv_isub C.1 C.2.1 dX10_unpack_39 ?_
      refine lv_ishr C.1 C.2.1 dX10_unpack_40 ?_
      refine lv_iconst (v := 1) C.1 C.2.1 dX10_unpack_41 (by decide) ?_
      refine lv_iand C.1 C.2.1 dX10_unpack_42 ?_
      refine zr_lti h (fun v3 h => ?_)
      refine lv_istore (lv' := [(5, .int v3), (0, .ref (zg_q G 0)), (1, .int x1), (2, .int f2), (3, .int x3), (4, .int x4)]) C.1 C.2.1 dX10_unpack_43 hl (by decide) rfl (fun ls hl => ?_)
      refine lv_iconst (v := 2) C.1 C.2.1 dX10_unpack_45 (by decide) ?_
      refine lv_iload_n C.1 C.2.1 dX10_unpack_46 rfl (lv_at hl 4 rfl) ?_
      refine lv_imul C.1 C.2.1 dX10_unpack_47 ?_
      refine lv_iload C.1 C.2.1 dX10_unpack_48 (lv_at hl 0 rfl) ?_
      refine lv_iadd C.1 C.2.1 dX10_unpack_50 ?_
      refine zr_lti h (fun v4 h => ?_)
      refine lv_istore_n (lv' := [(3, .int v4), (5, .int v3), (0, .ref (zg_q G 0)), (1, .int x1), (2, .int f2), (4, .int x4)]) C.1 C.2.1 dX10_unpack_51 rfl hl (by decide) rfl (fun ls hl => ?_)
      obtain ⟨v5, e_, h⟩ := zc_lt_x h
      refine lv_iinc (v := v5) (lv' := [(1, .int v5), (3, .int v4), (5, .int v3), (0, .ref (zg_q G 0)), (2, .int f2), (4, .int x4)]) C.1 C.2.1 dX10_unpack_52 hl (k := 3) rfl (by subst e_; rfl) (by decide) rfl (fun ls hl => ?_)
      clear e_
      obtain ⟨v6, e_, h⟩ := zc_lt_x h
      refine lv_iinc (v := v6) (lv' := [(4, .int v6), (1, .int v5), (3, .int v4), (5, .int v3), (0, .ref (zg_q G 0)), (2, .int f2)]) C.1 C.2.1 dX10_unpack_55 hl (k := 5) rfl (by subst e_; rfl) (by decide) rfl (fun ls hl => ?_)
      clear e_
      refine lv_goto (tgt := 20) C.1 C.2.1 dX10_unpack_58 (by decide) ?_
      exact ih _ _ _ h _ _ _ w (lv_sub hl [4, 1, 5, 2, 0] rfl)
set_option maxHeartbeats 4000000 in
set_option maxRecDepth 100000 in
theorem zk_X10_unpack_4 {p : Program} {l : Launch} {e : Env} {s : State} {m : MethodId} {args : Array Value} {below : List Frame} {meth : Method} {c : Code} {G : zg_T} {Q : State → Prop} (C : zx_C p s m args meth c G RX10 cX10_unpack 6) (oS : zs_T) (kont : ∀ (H : Heap) (locs : List Loc) (ls : Array Slot), zg_W G oS s H locs → lv_has ls 6 [] → W p l e zr_m_X10_unpack s m args below meth c H locs 0 0 Q (F0 m 74 ls [])) : ∀ (n : Nat) (S : zs_T) (x1 : Int32) (x2 : Int32), zl_3 (zb_X10_unpack_4) n S x1 x2 = some oS → ∀ (H : Heap) (locs : List Loc) (ls : Array Slot), zg_W G S s H locs → lv_has ls 6 [(0, .ref (zg_q G 0)), (1, .int x1), (2, .int x2)] → W p l e zr_m_X10_unpack s m args below meth c H locs 0 0 Q (F0 m 4 ls []) := by
  intro n
  induction n with
  | zero => intro S x1 x2 h; cases h
  | succ n ih =>
    intro S x1 x2 h H locs ls w hl
    replace h : zb_X10_unpack_4 (zl_3 (zb_X10_unpack_4) n) S x1 x2 = some oS := h
    generalize zl_3 (zb_X10_unpack_4) n = rec at ih h
    unfold zb_X10_unpack_4 at h
    refine lv_iload_n C.1 C.2.1 dX10_unpack_4 rfl (lv_at hl 2 rfl) ?_
    refine lv_bipush (v := 76) C.1 C.2.1 dX10_unpack_5 (by decide) ?_
    refine zr_ic_ge (tgt := 74) C dX10_unpack_7 (by decide) h (fun h => ?_) (fun h => ?_)
    · cases h
      exact kont _ _ _ w (lv_sub hl [] rfl)
    · refine lv_iconst (v := 0) C.1 C.2.1 dX10_unpack_10 (by decide) ?_
      refine lv_istore_n (lv' := [(3, .int (0 : Int32)), (0, .ref (zg_q G 0)), (1, .int x1), (2, .int x2)]) C.1 C.2.1 dX10_unpack_11 rfl hl (by decide) rfl (fun ls hl => ?_)
      refine lv_iload_n C.1 C.2.1 dX10_unpack_12 rfl (lv_at hl 3 rfl) ?_
      obtain ⟨v1, hc, h⟩ := zc_b1_x h
      refine zr_callSi C w (As := [.int x2]) (zm_X10_bitsOf l G _ _ _ hc) zm_c_X10_bitsOf zm_l_X10_153 zm_s_X10_bitsOf zm_0_X10 zm_d_X10_bitsOf ⟨rfl, rfl⟩ ⟨Nat.le_of_ble_eq_true rfl, Nat.le_of_ble_eq_true rfl⟩ hl.1 rfl rfl (Nat.le_of_ble_eq_true rfl) dX10_unpack_13 ⟨Nat.le_of_ble_eq_true rfl, Nat.le_of_ble_eq_true rfl⟩ (fun H locs w => ?_)
      clear hc
      refine lv_iconst (v := 1) C.1 C.2.1 dX10_unpack_16 (by decide) ?_
      refine lv_isub C.1 C.2.1 dX10_unpack_17 ?_
      refine zr_lti h (fun v2 h => ?_)
      refine lv_istore (lv' := [(4, .int v2), (3, .int (0 : Int32)), (0, .ref (zg_q G 0)), (1, .int x1), (2, .int x2)]) C.1 C.2.1 dX10_unpack_18 hl (by decide) rfl (fun ls hl => ?_)
      obtain ⟨v7, v8, hc, h⟩ := zc_b2_x h
      refine zk_X10_unpack_20 C _ x2 v7 v8 (fun H locs ls w hl => ?_) _ _ _ _ hc _ _ _ w (lv_sub hl [2, 3, 4, 1, 0] rfl)
      clear hc
      refine lv_aload_n C.1 C.2.1 dX10_unpack_61 rfl (lv_at hl 0 rfl) ?_
      refine zr_get C w 0 zm_w_X10 (zw_g0 G _) rfl 2 (by decide) zm_f_X10_16 rfl dX10_unpack_62 ?_
      refine lv_iload_n C.1 C.2.1 dX10_unpack_65 rfl (lv_at hl 2 rfl) ?_
      refine lv_iload_n C.1 C.2.1 dX10_unpack_66 rfl (lv_at hl 3 rfl) ?_
      refine zr_iast C w 3 (zw_g3 G _) (zw_s3 G _) dX10_unpack_67 h (fun S9 H locs w h => ?_)
      obtain ⟨v10, e_, h⟩ := zc_lt_x h
      refine lv_iinc (v := v10) (lv' := [(2, .int v10), (0, .ref (zg_q G 0)), (1, .int v7), (3, .int v8)]) C.1 C.2.1 dX10_unpack_68 hl (k := 2) rfl (by subst e_; rfl) (by decide) rfl (fun ls hl => ?_)
      clear e_
      refine lv_goto (tgt := 4) C.1 C.2.1 dX10_unpack_71 (by decide) ?_
      exact ih _ _ _ h _ _ _ w (lv_sub hl [1, 2, 0] rfl)
set_option maxHeartbeats 4000000 in
set_option maxRecDepth 100000 in
theorem zm_X10_unpack (l : Launch) (G : zg_T) (S : zs_T) (S1 : zs_T) (h : zf_X10_unpack S = some S1) : Met l yX10_unpack (Cond.code yX10_unpack cX10_unpack 6 none :: zt_G) zr_m_X10_unpack (va_Pc [.ref (zg_q G 0)] (zg_P G S)) (zg_Q G none S1) 0 0 (zg_A G) := by
  refine zx_met (by decide +kernel) (Nat.le_of_ble_eq_true rfl) (lv := [(0, .ref (zg_q G 0))]) rfl ?_
  intro p e s m below meth c C hr w ls hl
  replace C : zx_C p s m _ meth c G RX10 cX10_unpack 6 := C
  unfold zf_X10_unpack at h
  refine lv_iconst (v := 4) C.1 C.2.1 dX10_unpack_0 (by decide) ?_
  refine lv_istore_n (lv' := [(1, .int (4 : Int32)), (0, .ref (zg_q G 0))]) C.1 C.2.1 dX10_unpack_1 rfl hl (by decide) rfl (fun ls hl => ?_)
  refine lv_iconst (v := 0) C.1 C.2.1 dX10_unpack_2 (by decide) ?_
  refine lv_istore_n (lv' := [(2, .int (0 : Int32)), (1, .int (4 : Int32)), (0, .ref (zg_q G 0))]) C.1 C.2.1 dX10_unpack_3 rfl hl (by decide) rfl (fun ls hl => ?_)
  obtain ⟨S11, hc, h⟩ := zc_b1_x h
  refine zk_X10_unpack_4 C S11 (fun H locs ls w hl => ?_) _ _ _ _ hc _ _ _ w (lv_sub hl [2, 1, 0] rfl)
  clear hc
  exact zr_retv C w hr dX10_unpack_74 (Option.some.inj h)
set_option maxHeartbeats 4000000 in
set_option maxRecDepth 100000 in
theorem zm_X10_stateCells (l : Launch) (G : zg_T) (S : zs_T) (a1 : Int32) (r : Int32) (h : zf_X10_stateCells a1 = r) : Met l yX10_stateCells (Cond.code yX10_stateCells cX10_stateCells 1 (some .int) :: zt_G) zr_m_X10_stateCells (va_Pc [.int a1] (zg_P G S)) (zg_Q G (some (.int r)) S) 0 0 (zg_A G) := by
  refine zx_met (by decide +kernel) (Nat.le_of_ble_eq_true rfl) (lv := [(0, .int a1)]) rfl ?_
  intro p e s m below meth c C hr w ls hl
  replace C : zx_C p s m _ meth c G RX10 cX10_stateCells 1 := C
  unfold zf_X10_stateCells at h
  refine lv_iload_n C.1 C.2.1 dX10_stateCells_0 rfl (lv_at hl 0 rfl) ?_
  by_cases c0 : a1 = (0 : Int32)
  · replace h := (if_pos c0).symm.trans h
    refine lv_tableIn (tgt := 48) C.1 C.2.1 dX10_stateCells_1 (by rw [c0]; decide) (by rw [c0]; decide) (by rw [c0]; rfl) (by decide) ?_
    refine lv_bipush (v := 8) C.1 C.2.1 dX10_stateCells_48 (by decide) ?_
    exact zr_reti C w hr dX10_stateCells_50 h rfl
  replace h := (if_neg c0).symm.trans h
  by_cases c1 : a1 = (1 : Int32)
  · replace h := (if_pos c1).symm.trans h
    refine lv_tableIn (tgt := 48) C.1 C.2.1 dX10_stateCells_1 (by rw [c1]; decide) (by rw [c1]; decide) (by rw [c1]; rfl) (by decide) ?_
    refine lv_bipush (v := 8) C.1 C.2.1 dX10_stateCells_48 (by decide) ?_
    exact zr_reti C w hr dX10_stateCells_50 h rfl
  replace h := (if_neg c1).symm.trans h
  by_cases c2 : a1 = (2 : Int32)
  · replace h := (if_pos c2).symm.trans h
    refine lv_tableIn (tgt := 51) C.1 C.2.1 dX10_stateCells_1 (by rw [c2]; decide) (by rw [c2]; decide) (by rw [c2]; rfl) (by decide) ?_
    refine lv_bipush (v := 120) C.1 C.2.1 dX10_stateCells_51 (by decide) ?_
    exact zr_reti C w hr dX10_stateCells_53 h rfl
  replace h := (if_neg c2).symm.trans h
  by_cases c3 : a1 = (3 : Int32)
  · replace h := (if_pos c3).symm.trans h
    refine lv_tableIn (tgt := 51) C.1 C.2.1 dX10_stateCells_1 (by rw [c3]; decide) (by rw [c3]; decide) (by rw [c3]; rfl) (by decide) ?_
    refine lv_bipush (v := 120) C.1 C.2.1 dX10_stateCells_51 (by decide) ?_
    exact zr_reti C w hr dX10_stateCells_53 h rfl
  replace h := (if_neg c3).symm.trans h
  by_cases c4 : a1 = (4 : Int32)
  · replace h := (if_pos c4).symm.trans h
    refine lv_tableIn (tgt := 48) C.1 C.2.1 dX10_stateCells_1 (by rw [c4]; decide) (by rw [c4]; decide) (by rw [c4]; rfl) (by decide) ?_
    refine lv_bipush (v := 8) C.1 C.2.1 dX10_stateCells_48 (by decide) ?_
    exact zr_reti C w hr dX10_stateCells_50 h rfl
  replace h := (if_neg c4).symm.trans h
  by_cases c5 : a1 = (5 : Int32)
  · replace h := (if_pos c5).symm.trans h
    refine lv_tableIn (tgt := 48) C.1 C.2.1 dX10_stateCells_1 (by rw [c5]; decide) (by rw [c5]; decide) (by rw [c5]; rfl) (by decide) ?_
    refine lv_bipush (v := 8) C.1 C.2.1 dX10_stateCells_48 (by decide) ?_
    exact zr_reti C w hr dX10_stateCells_50 h rfl
  replace h := (if_neg c5).symm.trans h
  by_cases c6 : a1 = (6 : Int32)
  · replace h := (if_pos c6).symm.trans h
    refine lv_tableIn (tgt := 54) C.1 C.2.1 dX10_stateCells_1 (by rw [c6]; decide) (by rw [c6]; decide) (by rw [c6]; rfl) (by decide) ?_
    refine lv_iconst (v := 3) C.1 C.2.1 dX10_stateCells_54 (by decide) ?_
    exact zr_reti C w hr dX10_stateCells_55 h rfl
  replace h := (if_neg c6).symm.trans h
  by_cases c7 : a1 = (7 : Int32)
  · replace h := (if_pos c7).symm.trans h
    refine lv_tableIn (tgt := 56) C.1 C.2.1 dX10_stateCells_1 (by rw [c7]; decide) (by rw [c7]; decide) (by rw [c7]; rfl) (by decide) ?_
    refine lv_iconst (v := 2) C.1 C.2.1 dX10_stateCells_56 (by decide) ?_
    exact zr_reti C w hr dX10_stateCells_57 h rfl
  replace h := (if_neg c7).symm.trans h
  refine lv_tableOut (tgt := 58) C.1 C.2.1 dX10_stateCells_1 (by have q0 := lv_neT (a := 0) c0 rfl; have q1 := lv_neT (a := 1) c1 rfl; have q2 := lv_neT (a := 2) c2 rfl; have q3 := lv_neT (a := 3) c3 rfl; have q4 := lv_neT (a := 4) c4 rfl; have q5 := lv_neT (a := 5) c5 rfl; have q6 := lv_neT (a := 6) c6 rfl; have q7 := lv_neT (a := 7) c7 rfl; omega) (by decide) ?_
  refine lv_iconst (v := 0) C.1 C.2.1 dX10_stateCells_58 (by decide) ?_
  exact zr_reti C w hr dX10_stateCells_59 h rfl
set_option maxHeartbeats 4000000 in
set_option maxRecDepth 100000 in
theorem zm_X3_goingOn (l : Launch) (G : zg_T) (S : zs_T) (a1 : Int32) (r : Int32) (h : zf_X3_goingOn S a1 = some r) : Met l yX3_goingOn (Cond.code yX3_goingOn cX3_goingOn 2 (some .int) :: zt_G) zr_m_X3_goingOn (va_Pc [.ref (zg_q G 8), .int a1] (zg_P G S)) (zg_Q G (some (.int r)) S) 0 0 (zg_A G) := by
  refine zx_met (by decide +kernel) (Nat.le_of_ble_eq_true rfl) (lv := [(0, .ref (zg_q G 8)), (1, .int a1)]) rfl ?_
  intro p e s m below meth c C hr w ls hl
  replace C : zx_C p s m _ meth c G RX3 cX3_goingOn 2 := C
  unfold zf_X3_goingOn at h
  refine lv_iload_n C.1 C.2.1 dX3_goingOn_0 rfl (lv_at hl 1 rfl) ?_
  refine zr_if_ne (tgt := 11) C dX3_goingOn_1 (by decide) h (fun h => ?_) (fun h => ?_)
  · refine lv_iload_n C.1 C.2.1 dX3_goingOn_11 rfl (lv_at hl 1 rfl) ?_
    refine lv_iconst (v := 1) C.1 C.2.1 dX3_goingOn_12 (by decide) ?_
    refine zr_ic_ne (tgt := 23) C dX3_goingOn_13 (by decide) h (fun h => ?_) (fun h => ?_)
    · refine lv_aload_n C.1 C.2.1 dX3_goingOn_23 rfl (lv_at hl 0 rfl) ?_
      refine zr_get C w 8 zm_w_X3 (zw_g8 G _) rfl 2 (by decide) zm_f_X3_22 rfl dX3_goingOn_24 ?_
      exact zr_reti C w hr dX3_goingOn_27 (Option.some.inj h) rfl
    · refine lv_aload_n C.1 C.2.1 dX3_goingOn_16 rfl (lv_at hl 0 rfl) ?_
      refine zr_get C w 8 zm_w_X3 (zw_g8 G _) rfl 1 (by decide) zm_f_X3_19 rfl dX3_goingOn_17 ?_
      refine lv_goto (tgt := 27) C.1 C.2.1 dX3_goingOn_20 (by decide) ?_
      exact zr_reti C w hr dX3_goingOn_27 (Option.some.inj h) rfl
  · refine lv_aload_n C.1 C.2.1 dX3_goingOn_4 rfl (lv_at hl 0 rfl) ?_
    refine zr_get C w 8 zm_w_X3 (zw_g8 G _) rfl 0 (by decide) zm_f_X3_15 rfl dX3_goingOn_5 ?_
    refine lv_goto (tgt := 27) C.1 C.2.1 dX3_goingOn_8 (by decide) ?_
    exact zr_reti C w hr dX3_goingOn_27 (Option.some.inj h) rfl
set_option maxHeartbeats 4000000 in
set_option maxRecDepth 100000 in
theorem zk_J7_fill_53178_5_3 {p : Program} {l : Launch} {e : Env} {s : State} {m : MethodId} {args : Array Value} {below : List Frame} {meth : Method} {c : Code} {G : zg_T} {Q : State → Prop} (C : zx_C p s m args meth c G RJ7 cJ7_fill_53178 4) (f1 : Int32) (f3 : Int32) (oS : zs_T) (kont : ∀ (H : Heap) (locs : List Loc) (ls : Array Slot), zg_W G oS s H locs → lv_has ls 4 [] → W p l e zr_m_J7_fill_53178 s m args below meth c H locs 0 0 Q (F0 m 20 ls [])) : ∀ (n : Nat) (S : zs_T) (x2 : Int32), zl_2 (zb_J7_fill_53178_5 3 76 f1 f3) n S x2 = some oS → ∀ (H : Heap) (locs : List Loc) (ls : Array Slot), zg_W G S s H locs → lv_has ls 4 [(0, .ref (zg_q G 3)), (1, .int f1), (2, .int x2), (3, .int f3)] → W p l e zr_m_J7_fill_53178 s m args below meth c H locs 0 0 Q (F0 m 5 ls []) := by
  intro n
  induction n with
  | zero => intro S x2 h; cases h
  | succ n ih =>
    intro S x2 h H locs ls w hl
    replace h : zb_J7_fill_53178_5 3 76 f1 f3 (zl_2 (zb_J7_fill_53178_5 3 76 f1 f3) n) S x2 = some oS := h
    generalize zl_2 (zb_J7_fill_53178_5 3 76 f1 f3) n = rec at ih h
    unfold zb_J7_fill_53178_5 at h
    refine lv_iload_n C.1 C.2.1 dJ7_fill_53178_5 rfl (lv_at hl 2 rfl) ?_
    refine lv_iload_n C.1 C.2.1 dJ7_fill_53178_6 rfl (lv_at hl 3 rfl) ?_
    refine zr_ic_ge (tgt := 20) C dJ7_fill_53178_7 (by decide) h (fun h => ?_) (fun h => ?_)
    · cases h
      exact kont _ _ _ w (lv_sub hl [] rfl)
    · refine lv_aload_n C.1 C.2.1 dJ7_fill_53178_10 rfl (lv_at hl 0 rfl) ?_
      refine lv_iload_n C.1 C.2.1 dJ7_fill_53178_11 rfl (lv_at hl 2 rfl) ?_
      refine lv_iload_n C.1 C.2.1 dJ7_fill_53178_12 rfl (lv_at hl 1 rfl) ?_
      refine zr_iast C w 3 (zw_g3 G _) (zw_s3 G _) dJ7_fill_53178_13 h (fun S2 H locs w h => ?_)
      obtain ⟨v3, e_, h⟩ := zc_lt_x h
      refine lv_iinc (v := v3) (lv' := [(2, .int v3), (0, .ref (zg_q G 3)), (1, .int f1), (3, .int f3)]) C.1 C.2.1 dJ7_fill_53178_14 hl (k := 2) rfl (by subst e_; rfl) (by decide) rfl (fun ls hl => ?_)
      clear e_
      refine lv_goto (tgt := 5) C.1 C.2.1 dJ7_fill_53178_17 (by decide) ?_
      exact ih _ _ h _ _ _ w (lv_sub hl [1, 2, 0, 3] rfl)
set_option maxHeartbeats 4000000 in
set_option maxRecDepth 100000 in
theorem zm_J7_fill_53178_3 (l : Launch) (G : zg_T) (S : zs_T) (a1 : Int32) (S1 : zs_T) (h : zf_J7_fill_53178 3 76 S a1 = some S1) : Met l yJ7_fill_53178 (Cond.code yJ7_fill_53178 cJ7_fill_53178 4 none :: zt_G) zr_m_J7_fill_53178 (va_Pc [.ref (zg_q G 3), .int a1] (zg_P G S)) (zg_Q G none S1) 0 0 (zg_A G) := by
  refine zx_met (by decide +kernel) (Nat.le_of_ble_eq_true rfl) (lv := [(0, .ref (zg_q G 3)), (1, .int a1)]) rfl ?_
  intro p e s m below meth c C hr w ls hl
  replace C : zx_C p s m _ meth c G RJ7 cJ7_fill_53178 4 := C
  unfold zf_J7_fill_53178 at h
  refine lv_iconst (v := 0) C.1 C.2.1 dJ7_fill_53178_0 (by decide) ?_
  refine lv_istore_n (lv' := [(2, .int (0 : Int32)), (0, .ref (zg_q G 3)), (1, .int a1)]) C.1 C.2.1 dJ7_fill_53178_1 rfl hl (by decide) rfl (fun ls hl => ?_)
  refine lv_aload_n C.1 C.2.1 dJ7_fill_53178_2 rfl (lv_at hl 1 rfl) ?_
  refine zr_alen C w 3 (zw_g3 G _) rfl dJ7_fill_53178_3 ?_
  refine zr_lti h (fun v1 h => ?_)
  refine lv_istore_n (lv' := [(3, .int v1), (2, .int (0 : Int32)), (0, .ref (zg_q G 3)), (1, .int a1)]) C.1 C.2.1 dJ7_fill_53178_4 rfl hl (by decide) rfl (fun ls hl => ?_)
  obtain ⟨S4, hc, h⟩ := zc_b1_x h
  refine zk_J7_fill_53178_5_3 C a1 v1 S4 (fun H locs ls w hl => ?_) _ _ _ hc _ _ _ w (lv_sub hl [2, 3, 1, 0] rfl)
  clear hc
  exact zr_retv C w hr dJ7_fill_53178_20 (Option.some.inj h)
set_option maxHeartbeats 4000000 in
set_option maxRecDepth 100000 in
theorem zk_J7_fill_53178_5_4 {p : Program} {l : Launch} {e : Env} {s : State} {m : MethodId} {args : Array Value} {below : List Frame} {meth : Method} {c : Code} {G : zg_T} {Q : State → Prop} (C : zx_C p s m args meth c G RJ7 cJ7_fill_53178 4) (f1 : Int32) (f3 : Int32) (oS : zs_T) (kont : ∀ (H : Heap) (locs : List Loc) (ls : Array Slot), zg_W G oS s H locs → lv_has ls 4 [] → W p l e zr_m_J7_fill_53178 s m args below meth c H locs 0 0 Q (F0 m 20 ls [])) : ∀ (n : Nat) (S : zs_T) (x2 : Int32), zl_2 (zb_J7_fill_53178_5 4 160 f1 f3) n S x2 = some oS → ∀ (H : Heap) (locs : List Loc) (ls : Array Slot), zg_W G S s H locs → lv_has ls 4 [(0, .ref (zg_q G 4)), (1, .int f1), (2, .int x2), (3, .int f3)] → W p l e zr_m_J7_fill_53178 s m args below meth c H locs 0 0 Q (F0 m 5 ls []) := by
  intro n
  induction n with
  | zero => intro S x2 h; cases h
  | succ n ih =>
    intro S x2 h H locs ls w hl
    replace h : zb_J7_fill_53178_5 4 160 f1 f3 (zl_2 (zb_J7_fill_53178_5 4 160 f1 f3) n) S x2 = some oS := h
    generalize zl_2 (zb_J7_fill_53178_5 4 160 f1 f3) n = rec at ih h
    unfold zb_J7_fill_53178_5 at h
    refine lv_iload_n C.1 C.2.1 dJ7_fill_53178_5 rfl (lv_at hl 2 rfl) ?_
    refine lv_iload_n C.1 C.2.1 dJ7_fill_53178_6 rfl (lv_at hl 3 rfl) ?_
    refine zr_ic_ge (tgt := 20) C dJ7_fill_53178_7 (by decide) h (fun h => ?_) (fun h => ?_)
    · cases h
      exact kont _ _ _ w (lv_sub hl [] rfl)
    · refine lv_aload_n C.1 C.2.1 dJ7_fill_53178_10 rfl (lv_at hl 0 rfl) ?_
      refine lv_iload_n C.1 C.2.1 dJ7_fill_53178_11 rfl (lv_at hl 2 rfl) ?_
      refine lv_iload_n C.1 C.2.1 dJ7_fill_53178_12 rfl (lv_at hl 1 rfl) ?_
      refine zr_iast C w 4 (zw_g4 G _) (zw_s4 G _) dJ7_fill_53178_13 h (fun S2 H locs w h => ?_)
      obtain ⟨v3, e_, h⟩ := zc_lt_x h
      refine lv_iinc (v := v3) (lv' := [(2, .int v3), (0, .ref (zg_q G 4)), (1, .int f1), (3, .int f3)]) C.1 C.2.1 dJ7_fill_53178_14 hl (k := 2) rfl (by subst e_; rfl) (by decide) rfl (fun ls hl => ?_)
      clear e_
      refine lv_goto (tgt := 5) C.1 C.2.1 dJ7_fill_53178_17 (by decide) ?_
      exact ih _ _ h _ _ _ w (lv_sub hl [1, 2, 0, 3] rfl)
set_option maxHeartbeats 4000000 in
set_option maxRecDepth 100000 in
theorem zm_J7_fill_53178_4 (l : Launch) (G : zg_T) (S : zs_T) (a1 : Int32) (S1 : zs_T) (h : zf_J7_fill_53178 4 160 S a1 = some S1) : Met l yJ7_fill_53178 (Cond.code yJ7_fill_53178 cJ7_fill_53178 4 none :: zt_G) zr_m_J7_fill_53178 (va_Pc [.ref (zg_q G 4), .int a1] (zg_P G S)) (zg_Q G none S1) 0 0 (zg_A G) := by
  refine zx_met (by decide +kernel) (Nat.le_of_ble_eq_true rfl) (lv := [(0, .ref (zg_q G 4)), (1, .int a1)]) rfl ?_
  intro p e s m below meth c C hr w ls hl
  replace C : zx_C p s m _ meth c G RJ7 cJ7_fill_53178 4 := C
  unfold zf_J7_fill_53178 at h
  refine lv_iconst (v := 0) C.1 C.2.1 dJ7_fill_53178_0 (by decide) ?_
  refine lv_istore_n (lv' := [(2, .int (0 : Int32)), (0, .ref (zg_q G 4)), (1, .int a1)]) C.1 C.2.1 dJ7_fill_53178_1 rfl hl (by decide) rfl (fun ls hl => ?_)
  refine lv_aload_n C.1 C.2.1 dJ7_fill_53178_2 rfl (lv_at hl 1 rfl) ?_
  refine zr_alen C w 4 (zw_g4 G _) rfl dJ7_fill_53178_3 ?_
  refine zr_lti h (fun v1 h => ?_)
  refine lv_istore_n (lv' := [(3, .int v1), (2, .int (0 : Int32)), (0, .ref (zg_q G 4)), (1, .int a1)]) C.1 C.2.1 dJ7_fill_53178_4 rfl hl (by decide) rfl (fun ls hl => ?_)
  obtain ⟨S4, hc, h⟩ := zc_b1_x h
  refine zk_J7_fill_53178_5_4 C a1 v1 S4 (fun H locs ls w hl => ?_) _ _ _ hc _ _ _ w (lv_sub hl [2, 3, 1, 0] rfl)
  clear hc
  exact zr_retv C w hr dJ7_fill_53178_20 (Option.some.inj h)
set_option maxHeartbeats 4000000 in
set_option maxRecDepth 100000 in
theorem zm_X10_take (l : Launch) (G : zg_T) (S : zs_T) (r : Int32) (S1 : zs_T) (h : zf_X10_take S = some (r, S1)) : Met l yX10_take (Cond.code yX10_take cX10_take 1 (some .int) :: zt_G) zr_m_X10_take (va_Pc [.ref (zg_q G 0)] (zg_P G S)) (zg_Q G (some (.int r)) S1) 0 0 (zg_A G) := by
  refine zx_met (by decide +kernel) (Nat.le_of_ble_eq_true rfl) (lv := [(0, .ref (zg_q G 0))]) rfl ?_
  intro p e s m below meth c C hr w ls hl
  replace C : zx_C p s m _ meth c G RX10 cX10_take 1 := C
  unfold zf_X10_take at h
  refine lv_aload_n C.1 C.2.1 dX10_take_0 rfl (lv_at hl 0 rfl) ?_
  obtain ⟨S1, hc, h⟩ := zc_b1_x h
  refine zr_callVv C w 0 (zw_g0 G _) rfl (As := []) (zm_X10_pack l G _ _ hc) zm_c_X10_pack zm_l_X10_74 zm_i_X10_pack zm_e_X10_pack zm_0_X10 zm_d_X10_pack ⟨rfl, rfl⟩ ⟨Nat.le_of_ble_eq_true rfl, Nat.le_of_ble_eq_true rfl⟩ hl.1 rfl rfl (Nat.le_of_ble_eq_true rfl) dX10_take_1 ⟨Nat.le_of_ble_eq_true rfl, Nat.le_of_ble_eq_true rfl⟩ (fun H locs w => ?_)
  clear hc
  refine lv_aload_n C.1 C.2.1 dX10_take_4 rfl (lv_at hl 0 rfl) ?_
  refine lv_bipush (v := 33) C.1 C.2.1 dX10_take_5 (by decide) ?_
  refine zr_put C w 0 zm_w_X10 tyX10 tyX10_ok nmX10 (zw_g0 G _) rfl 7 (by decide) zm_f_X10_40 rfl (ty := .int) (by decide +kernel) rfl rfl (Nat.le_of_ble_eq_true rfl) (zw_f0_7 G _ _) dX10_take_7 h (fun S2 H locs w h => ?_)
  refine lv_aload_n C.1 C.2.1 dX10_take_10 rfl (lv_at hl 0 rfl) ?_
  refine zr_get C w 0 zm_w_X10 (zw_g0 G _) rfl 7 (by decide) zm_f_X10_40 rfl dX10_take_11 ?_
  exact zr_reti C w hr dX10_take_14 (congrArg Prod.fst (Option.some.inj h)) (congrArg Prod.snd (Option.some.inj h))
set_option maxHeartbeats 4000000 in
set_option maxRecDepth 100000 in
theorem zq_X10_decode_27 {p : Program} {l : Launch} {e : Env} {s : State} {m : MethodId} {args : Array Value} {below : List Frame} {meth : Method} {c : Code} {G : zg_T} (hr : meth.sig.returnType = (some .int)) (C : zx_C p s m args meth c G RX10 cX10_decode 2) (r : Int32) (S1 : zs_T) (S : zs_T) (z0 : Int32) (h : zj_X10_decode_27 S z0 = some (r, S1)) (H : Heap) (locs : List Loc) (ls : Array Slot) (w : zg_W G S s H locs) (hl : lv_has ls 2 [(0, .ref (zg_q G 0))]) : W p l e zr_m_X10_decode s m args below meth c H locs 0 0 (MQ below (zg_Q G (some (.int r)) S1) args s 0 0 (zg_A G)) (F0 m 27 ls [.int z0]) := by
  unfold zj_X10_decode_27 at h
  refine lv_istore_n (lv' := [(1, .int z0), (0, .ref (zg_q G 0))]) C.1 C.2.1 dX10_decode_27 rfl hl (by decide) rfl (fun ls hl => ?_)
  refine lv_aload_n C.1 C.2.1 dX10_decode_28 rfl (lv_at hl 1 rfl) ?_
  refine lv_iconst (v := 0) C.1 C.2.1 dX10_decode_29 (by decide) ?_
  refine zr_put C w 0 zm_w_X10 tyX10 tyX10_ok nmX10 (zw_g0 G _) rfl 7 (by decide) zm_f_X10_40 rfl (ty := .int) (by decide +kernel) rfl rfl (Nat.le_of_ble_eq_true rfl) (zw_f0_7 G _ _) dX10_decode_30 h (fun S1 H locs w h => ?_)
  refine lv_iload_n C.1 C.2.1 dX10_decode_33 rfl (lv_at hl 0 rfl) ?_
  refine zr_if_ne (tgt := 39) C dX10_decode_34 (by decide) h (fun h => ?_) (fun h => ?_)
  · refine lv_aload_n C.1 C.2.1 dX10_decode_39 rfl (lv_at hl 1 rfl) ?_
    obtain ⟨S2, hc, h⟩ := zc_b1_x h
    refine zr_callVv C w 0 (zw_g0 G _) rfl (As := []) (zm_X10_unpack l G _ _ hc) zm_c_X10_unpack zm_l_X10_77 zm_i_X10_unpack zm_e_X10_unpack zm_0_X10 zm_d_X10_unpack ⟨rfl, rfl⟩ ⟨Nat.le_of_ble_eq_true rfl, Nat.le_of_ble_eq_true rfl⟩ hl.1 rfl rfl (Nat.le_of_ble_eq_true rfl) dX10_decode_40 ⟨Nat.le_of_ble_eq_true rfl, Nat.le_of_ble_eq_true rfl⟩ (fun H locs w => ?_)
    clear hc
    refine lv_aload_n C.1 C.2.1 dX10_decode_43 rfl (lv_at hl 1 rfl) ?_
    refine zr_get C w 0 zm_w_X10 (zw_g0 G _) rfl 5 (by decide) zm_f_X10_32 rfl dX10_decode_44 ?_
    refine lv_aload_n C.1 C.2.1 dX10_decode_47 rfl (lv_at hl 1 rfl) ?_
    refine zr_get C w 0 zm_w_X10 (zw_g0 G _) rfl 2 (by decide) zm_f_X10_16 rfl dX10_decode_48 ?_
    refine lv_aload_n C.1 C.2.1 dX10_decode_51 rfl (lv_at hl 1 rfl) ?_
    refine zr_get C w 0 zm_w_X10 (zw_g0 G _) rfl 3 (by decide) zm_f_X10_19 rfl dX10_decode_52 ?_
    obtain ⟨S3, hc, h⟩ := zc_b1_x h
    refine zr_callVv C w 29 (zw_g29 G _) rfl (As := [.ref (zg_q G 3), .ref (zg_q G 4)]) (zm_X0_speak l G _ _ hc) zm_c_X0_speak zm_l_X10_80 zm_i_X0_speak zm_e_X0_speak zm_0_X0 zm_d_X0_speak ⟨rfl, rfl⟩ ⟨Nat.le_of_ble_eq_true rfl, Nat.le_of_ble_eq_true rfl⟩ hl.1 rfl rfl (Nat.le_of_ble_eq_true rfl) dX10_decode_55 ⟨Nat.le_of_ble_eq_true rfl, Nat.le_of_ble_eq_true rfl⟩ (fun H locs w => ?_)
    clear hc
    refine lv_aload_n C.1 C.2.1 dX10_decode_58 rfl (lv_at hl 1 rfl) ?_
    refine zr_get C w 0 zm_w_X10 (zw_g0 G _) rfl 5 (by decide) zm_f_X10_32 rfl dX10_decode_59 ?_
    refine zr_getN C w 29 zm_w_X0 (zw_g29 G _) rfl 6 (by decide) zm_n_X10_83 rfl dX10_decode_62 ?_
    exact zr_reti C w hr dX10_decode_65 (congrArg Prod.fst (Option.some.inj h)) (congrArg Prod.snd (Option.some.inj h))
  · refine lv_iconst (v := -1) C.1 C.2.1 dX10_decode_37 (by decide) ?_
    exact zr_reti C w hr dX10_decode_38 (congrArg Prod.fst (Option.some.inj h)) (congrArg Prod.snd (Option.some.inj h))
set_option maxHeartbeats 4000000 in
set_option maxRecDepth 100000 in
theorem zq_X10_decode_26 {p : Program} {l : Launch} {e : Env} {s : State} {m : MethodId} {args : Array Value} {below : List Frame} {meth : Method} {c : Code} {G : zg_T} (hr : meth.sig.returnType = (some .int)) (C : zx_C p s m args meth c G RX10 cX10_decode 2) (r : Int32) (S1 : zs_T) (S : zs_T) (h : zj_X10_decode_26 S = some (r, S1)) (H : Heap) (locs : List Loc) (ls : Array Slot) (w : zg_W G S s H locs) (hl : lv_has ls 2 [(0, .ref (zg_q G 0))]) : W p l e zr_m_X10_decode s m args below meth c H locs 0 0 (MQ below (zg_Q G (some (.int r)) S1) args s 0 0 (zg_A G)) (F0 m 26 ls []) := by
  unfold zj_X10_decode_26 at h
  refine lv_iconst (v := 0) C.1 C.2.1 dX10_decode_26 (by decide) ?_
  exact zq_X10_decode_27 hr C _ _ _ _ h _ _ _ w (lv_sub hl [0] rfl)
set_option maxHeartbeats 4000000 in
set_option maxRecDepth 100000 in
theorem zm_X10_decode (l : Launch) (G : zg_T) (S : zs_T) (r : Int32) (S1 : zs_T) (h : zf_X10_decode S = some (r, S1)) : Met l yX10_decode (Cond.code yX10_decode cX10_decode 2 (some .int) :: zt_G) zr_m_X10_decode (va_Pc [.ref (zg_q G 0)] (zg_P G S)) (zg_Q G (some (.int r)) S1) 0 0 (zg_A G) := by
  refine zx_met (by decide +kernel) (Nat.le_of_ble_eq_true rfl) (lv := [(0, .ref (zg_q G 0))]) rfl ?_
  intro p e s m below meth c C hr w ls hl
  replace C : zx_C p s m _ meth c G RX10 cX10_decode 2 := C
  unfold zf_X10_decode at h
  refine lv_aload_n C.1 C.2.1 dX10_decode_0 rfl (lv_at hl 0 rfl) ?_
  refine zr_get C w 0 zm_w_X10 (zw_g0 G _) rfl 7 (by decide) zm_f_X10_40 rfl dX10_decode_1 ?_
  refine lv_bipush (v := 33) C.1 C.2.1 dX10_decode_4 (by decide) ?_
  refine zr_ic_ne (tgt := 26) C dX10_decode_6 (by decide) h (fun h => ?_) (fun h => ?_)
  · exact zq_X10_decode_26 hr C _ _ _ h _ _ _ w (lv_sub hl [0] rfl)
  · refine lv_aload_n C.1 C.2.1 dX10_decode_9 rfl (lv_at hl 0 rfl) ?_
    refine zr_get C w 0 zm_w_X10 (zw_g0 G _) rfl 1 (by decide) zm_f_X10_13 rfl dX10_decode_10 ?_
    refine lv_iconst (v := 0) C.1 C.2.1 dX10_decode_13 (by decide) ?_
    refine zr_iald C w 2 (zw_g2 G _) dX10_decode_14 h (fun h => ?_)
    refine lv_iconst (v := 4) C.1 C.2.1 dX10_decode_15 (by decide) ?_
    refine lv_ishr C.1 C.2.1 dX10_decode_16 ?_
    refine lv_bipush (v := 13) C.1 C.2.1 dX10_decode_17 (by decide) ?_
    refine zr_ic_ne (tgt := 26) C dX10_decode_19 (by decide) h (fun h => ?_) (fun h => ?_)
    · exact zq_X10_decode_26 hr C _ _ _ h _ _ _ w (lv_sub hl [0] rfl)
    · refine lv_iconst (v := 1) C.1 C.2.1 dX10_decode_22 (by decide) ?_
      refine lv_goto (tgt := 27) C.1 C.2.1 dX10_decode_23 (by decide) ?_
      exact zq_X10_decode_27 hr C _ _ _ _ h _ _ _ w (lv_sub hl [0] rfl)
set_option maxHeartbeats 4000000 in
set_option maxRecDepth 100000 in
theorem zm_X10_hand (l : Launch) (G : zg_T) (S : zs_T) (a1 : Int32) (r : Int32) (h : zf_X10_hand S a1 = some r) : Met l yX10_hand (Cond.code yX10_hand cX10_hand 2 (some .int) :: zt_G) zr_m_X10_hand (va_Pc [.ref (zg_q G 0), .int a1] (zg_P G S)) (zg_Q G (some (.int r)) S) 0 0 (zg_A G) := by
  refine zx_met (by decide +kernel) (Nat.le_of_ble_eq_true rfl) (lv := [(0, .ref (zg_q G 0)), (1, .int a1)]) rfl ?_
  intro p e s m below meth c C hr w ls hl
  replace C : zx_C p s m _ meth c G RX10 cX10_hand 2 := C
  unfold zf_X10_hand at h
  refine lv_iload_n C.1 C.2.1 dX10_hand_0 rfl (lv_at hl 1 rfl) ?_
  refine zr_if_lt (tgt := 21) C dX10_hand_1 (by decide) h (fun h => ?_) (fun h => ?_)
  · refine lv_iconst (v := -1) C.1 C.2.1 dX10_hand_21 (by decide) ?_
    exact zr_reti C w hr dX10_hand_22 (Option.some.inj h) rfl
  · refine lv_iload_n C.1 C.2.1 dX10_hand_4 rfl (lv_at hl 1 rfl) ?_
    refine lv_aload_n C.1 C.2.1 dX10_hand_5 rfl (lv_at hl 0 rfl) ?_
    refine zr_get C w 0 zm_w_X10 (zw_g0 G _) rfl 7 (by decide) zm_f_X10_40 rfl dX10_hand_6 ?_
    refine zr_ic_ge (tgt := 21) C dX10_hand_9 (by decide) h (fun h => ?_) (fun h => ?_)
    · refine lv_iconst (v := -1) C.1 C.2.1 dX10_hand_21 (by decide) ?_
      exact zr_reti C w hr dX10_hand_22 (Option.some.inj h) rfl
    · refine lv_aload_n C.1 C.2.1 dX10_hand_12 rfl (lv_at hl 0 rfl) ?_
      refine zr_get C w 0 zm_w_X10 (zw_g0 G _) rfl 1 (by decide) zm_f_X10_13 rfl dX10_hand_13 ?_
      refine lv_iload_n C.1 C.2.1 dX10_hand_16 rfl (lv_at hl 1 rfl) ?_
      refine zr_iald C w 2 (zw_g2 G _) dX10_hand_17 h (fun h => ?_)
      refine lv_goto (tgt := 22) C.1 C.2.1 dX10_hand_18 (by decide) ?_
      exact zr_reti C w hr dX10_hand_22 (Option.some.inj h) rfl
set_option maxHeartbeats 4000000 in
set_option maxRecDepth 100000 in
theorem zm_X11_thrown (l : Launch) (G : zg_T) (S : zs_T) (r : Int32) (h : zf_X11_thrown S = some r) : Met l yX11_thrown (Cond.code yX11_thrown cX11_thrown 1 (some .int) :: zt_G) zr_m_X11_thrown (va_Pc [.ref (zg_q G 40)] (zg_P G S)) (zg_Q G (some (.int r)) S) 0 0 (zg_A G) := by
  refine zx_met (by decide +kernel) (Nat.le_of_ble_eq_true rfl) (lv := [(0, .ref (zg_q G 40))]) rfl ?_
  intro p e s m below meth c C hr w ls hl
  replace C : zx_C p s m _ meth c G RX11 cX11_thrown 1 := C
  unfold zf_X11_thrown at h
  refine lv_aload_n C.1 C.2.1 dX11_thrown_0 rfl (lv_at hl 0 rfl) ?_
  refine zr_get C w 40 zm_w_X11 (zw_g40 G _) rfl 0 (by decide) zm_f_X11_69 rfl dX11_thrown_1 ?_
  exact zr_reti C w hr dX11_thrown_4 (Option.some.inj h) rfl
set_option maxHeartbeats 4000000 in
set_option maxRecDepth 100000 in
theorem zm_X11_refuses (l : Launch) (G : zg_T) (S : zs_T) (a1 : Int32) (r : Int32) (S1 : zs_T) (h : zf_X11_refuses S a1 = some (r, S1)) : Met l yX11_refuses (Cond.code yX11_refuses cX11_refuses 2 (some .boolean) :: zt_G) zr_m_X11_refuses (va_Pc [.ref (zg_q G 40), .int a1] (zg_P G S)) (zg_Q G (some (.int r)) S1) 0 0 (zg_A G) := by
  refine zx_met (by decide +kernel) (Nat.le_of_ble_eq_true rfl) (lv := [(0, .ref (zg_q G 40)), (1, .int a1)]) rfl ?_
  intro p e s m below meth c C hr w ls hl
  replace C : zx_C p s m _ meth c G RX11 cX11_refuses 2 := C
  unfold zf_X11_refuses at h
  refine lv_aload_n C.1 C.2.1 dX11_refuses_0 rfl (lv_at hl 0 rfl) ?_
  refine lv_iload_n C.1 C.2.1 dX11_refuses_1 rfl (lv_at hl 1 rfl) ?_
  refine zr_put C w 40 zm_w_X11 tyX11 tyX11_ok nmX11 (zw_g40 G _) rfl 0 (by decide) zm_f_X11_69 rfl (ty := .int) (by decide +kernel) rfl rfl (Nat.le_of_ble_eq_true rfl) (zw_f40_0 G _ _) dX11_refuses_2 h (fun S1 H locs w h => ?_)
  refine lv_iload_n C.1 C.2.1 dX11_refuses_5 rfl (lv_at hl 1 rfl) ?_
  refine zr_if_le (tgt := 13) C dX11_refuses_6 (by decide) h (fun h => ?_) (fun h => ?_)
  · refine lv_iconst (v := 0) C.1 C.2.1 dX11_refuses_13 (by decide) ?_
    exact zr_retz C w hr dX11_refuses_14 rfl (congrArg Prod.fst (Option.some.inj h)) (congrArg Prod.snd (Option.some.inj h))
  · refine lv_iconst (v := 1) C.1 C.2.1 dX11_refuses_9 (by decide) ?_
    refine lv_goto (tgt := 14) C.1 C.2.1 dX11_refuses_10 (by decide) ?_
    exact zr_retz C w hr dX11_refuses_14 rfl (congrArg Prod.fst (Option.some.inj h)) (congrArg Prod.snd (Option.some.inj h))
set_option maxHeartbeats 4000000 in
set_option maxRecDepth 100000 in
theorem zq_X11_put_34 {p : Program} {l : Launch} {e : Env} {s : State} {m : MethodId} {args : Array Value} {below : List Frame} {meth : Method} {c : Code} {G : zg_T} (hr : meth.sig.returnType = (some .int)) (C : zx_C p s m args meth c G RX11 cX11_put 2) (r : Int32) (S1 : zs_T) (S : zs_T) (y1 : Int32) (z0 : Int32) (h : zj_X11_put_34 S y1 z0 = some (r, S1)) (H : Heap) (locs : List Loc) (ls : Array Slot) (w : zg_W G S s H locs) (hl : lv_has ls 2 [(0, .ref (zg_q G 40)), (1, .int y1)]) : W p l e zr_m_X11_put s m args below meth c H locs 0 0 (MQ below (zg_Q G (some (.int r)) S1) args s 0 0 (zg_A G)) (F0 m 34 ls [.int z0, .ref (zg_q G 40)]) := by
  unfold zj_X11_put_34 at h
  obtain ⟨v1, S2, hc, h⟩ := zc_b2_x h
  refine zr_callVi C w 40 (zw_g40 G _) rfl (As := [.int z0]) (zm_X11_refuses l G _ _ _ _ hc) zm_c_X11_refuses zm_l_X11_91 zm_i_X11_refuses zm_e_X11_refuses zm_0_X11 zm_d_X11_refuses ⟨rfl, rfl⟩ ⟨Nat.le_of_ble_eq_true rfl, Nat.le_of_ble_eq_true rfl⟩ hl.1 rfl rfl (Nat.le_of_ble_eq_true rfl) dX11_put_34 ⟨Nat.le_of_ble_eq_true rfl, Nat.le_of_ble_eq_true rfl⟩ (fun H locs w => ?_)
  clear hc
  refine zr_if_eq (tgt := 42) C dX11_put_37 (by decide) h (fun h => ?_) (fun h => ?_)
  · refine lv_aload_n C.1 C.2.1 dX11_put_42 rfl (lv_at hl 0 rfl) ?_
    refine zr_get C w 40 zm_w_X11 (zw_g40 G _) rfl 2 (by decide) zm_f_X11_7 rfl dX11_put_43 ?_
    refine lv_aload_n C.1 C.2.1 dX11_put_46 rfl (lv_at hl 0 rfl) ?_
    refine zr_get C w 40 zm_w_X11 (zw_g40 G _) rfl 1 (by decide) zm_f_X11_88 rfl dX11_put_47 ?_
    refine lv_iload_n C.1 C.2.1 dX11_put_50 rfl (lv_at hl 1 rfl) ?_
    refine lv_i2l C.1 C.2.1 dX11_put_51 rfl ?_
    refine zr_last C w 41 (zw_g41 G _) (zw_s41 G _) dX11_put_52 h (fun S3 H locs w h => ?_)
    refine lv_aload_n C.1 C.2.1 dX11_put_53 rfl (lv_at hl 0 rfl) ?_
    refine lv_dup C.1 C.2.1 dX11_put_54 rfl ?_
    refine zr_get C w 40 zm_w_X11 (zw_g40 G _) rfl 1 (by decide) zm_f_X11_88 rfl dX11_put_55 ?_
    refine lv_iconst (v := 1) C.1 C.2.1 dX11_put_58 (by decide) ?_
    refine lv_iadd C.1 C.2.1 dX11_put_59 ?_
    refine zr_put C w 40 zm_w_X11 tyX11 tyX11_ok nmX11 (zw_g40 G _) rfl 1 (by decide) zm_f_X11_88 rfl (ty := .int) (by decide +kernel) rfl rfl (Nat.le_of_ble_eq_true rfl) (zw_f40_1 G _ _) dX11_put_60 h (fun S4 H locs w h => ?_)
    refine lv_aload_n C.1 C.2.1 dX11_put_63 rfl (lv_at hl 0 rfl) ?_
    refine zr_get C w 40 zm_w_X11 (zw_g40 G _) rfl 1 (by decide) zm_f_X11_88 rfl dX11_put_64 ?_
    exact zr_reti C w hr dX11_put_67 (congrArg Prod.fst (Option.some.inj h)) (congrArg Prod.snd (Option.some.inj h))
  · refine lv_iconst (v := 0) C.1 C.2.1 dX11_put_40 (by decide) ?_
    exact zr_reti C w hr dX11_put_41 (congrArg Prod.fst (Option.some.inj h)) (congrArg Prod.snd (Option.some.inj h))
set_option maxHeartbeats 4000000 in
set_option maxRecDepth 100000 in
theorem zq_X11_put_15 {p : Program} {l : Launch} {e : Env} {s : State} {m : MethodId} {args : Array Value} {below : List Frame} {meth : Method} {c : Code} {G : zg_T} (hr : meth.sig.returnType = (some .int)) (C : zx_C p s m args meth c G RX11 cX11_put 2) (r : Int32) (S1 : zs_T) (S : zs_T) (y1 : Int32) (h : zj_X11_put_15 S y1 = some (r, S1)) (H : Heap) (locs : List Loc) (ls : Array Slot) (w : zg_W G S s H locs) (hl : lv_has ls 2 [(0, .ref (zg_q G 40)), (1, .int y1)]) : W p l e zr_m_X11_put s m args below meth c H locs 0 0 (MQ below (zg_Q G (some (.int r)) S1) args s 0 0 (zg_A G)) (F0 m 15 ls [.ref (zg_q G 40)]) := by
  unfold zj_X11_put_15 at h
  refine lv_iconst (v := 1) C.1 C.2.1 dX11_put_15 (by decide) ?_
  refine lv_goto (tgt := 34) C.1 C.2.1 dX11_put_16 (by decide) ?_
  exact zq_X11_put_34 hr C _ _ _ _ _ h _ _ _ w (lv_sub hl [0, 1] rfl)
set_option maxHeartbeats 4000000 in
set_option maxRecDepth 100000 in
theorem zm_X11_put (l : Launch) (G : zg_T) (S : zs_T) (a1 : Int32) (r : Int32) (S1 : zs_T) (h : zf_X11_put S a1 = some (r, S1)) : Met l yX11_put (Cond.code yX11_put cX11_put 2 (some .int) :: zt_G) zr_m_X11_put (va_Pc [.ref (zg_q G 40), .int a1] (zg_P G S)) (zg_Q G (some (.int r)) S1) 0 0 (zg_A G) := by
  refine zx_met (by decide +kernel) (Nat.le_of_ble_eq_true rfl) (lv := [(0, .ref (zg_q G 40)), (1, .int a1)]) rfl ?_
  intro p e s m below meth c C hr w ls hl
  replace C : zx_C p s m _ meth c G RX11 cX11_put 2 := C
  unfold zf_X11_put at h
  refine lv_aload_n C.1 C.2.1 dX11_put_0 rfl (lv_at hl 0 rfl) ?_
  refine lv_iload_n C.1 C.2.1 dX11_put_1 rfl (lv_at hl 1 rfl) ?_
  refine lv_sipush (v := -32768) C.1 C.2.1 dX11_put_2 (by decide) ?_
  refine zr_ic_lt (tgt := 15) C dX11_put_5 (by decide) h (fun h => ?_) (fun h => ?_)
  · exact zq_X11_put_15 hr C _ _ _ _ h _ _ _ w (lv_sub hl [0, 1] rfl)
  · refine lv_iload_n C.1 C.2.1 dX11_put_8 rfl (lv_at hl 1 rfl) ?_
    refine lv_sipush (v := 32767) C.1 C.2.1 dX11_put_9 (by decide) ?_
    refine zr_ic_le (tgt := 19) C dX11_put_12 (by decide) h (fun h => ?_) (fun h => ?_)
    · refine lv_aload_n C.1 C.2.1 dX11_put_19 rfl (lv_at hl 0 rfl) ?_
      refine zr_get C w 40 zm_w_X11 (zw_g40 G _) rfl 1 (by decide) zm_f_X11_88 rfl dX11_put_20 ?_
      refine lv_sipush (v := 160) C.1 C.2.1 dX11_put_23 (by decide) ?_
      refine zr_ic_ne (tgt := 33) C dX11_put_26 (by decide) h (fun h => ?_) (fun h => ?_)
      · refine lv_iconst (v := 0) C.1 C.2.1 dX11_put_33 (by decide) ?_
        exact zq_X11_put_34 hr C _ _ _ _ _ h _ _ _ w (lv_sub hl [0, 1] rfl)
      · refine lv_iconst (v := 2) C.1 C.2.1 dX11_put_29 (by decide) ?_
        refine lv_goto (tgt := 34) C.1 C.2.1 dX11_put_30 (by decide) ?_
        exact zq_X11_put_34 hr C _ _ _ _ _ h _ _ _ w (lv_sub hl [0, 1] rfl)
    · exact zq_X11_put_15 hr C _ _ _ _ h _ _ _ w (lv_sub hl [0, 1] rfl)
set_option maxHeartbeats 4000000 in
set_option maxRecDepth 100000 in
theorem zq_X11_fill_90 {p : Program} {l : Launch} {e : Env} {s : State} {m : MethodId} {args : Array Value} {below : List Frame} {meth : Method} {c : Code} {G : zg_T} {Q : State → Prop} (C : zx_C p s m args meth c G RX11 cX11_fill 9) (rec : zs_T → Int64 → Int32 → Option zs_T) (S : zs_T) (y2 : Int32) (y3 : Int32) (y4 : Int64) (y6 : Int32) (z0 : Int64) (z1 : Int32) (oS : zs_T) (kont : ∀ (H : Heap) (locs : List Loc) (ls : Array Slot), zg_W G oS s H locs → lv_has ls 9 [(0, .ref (zg_q G 40))] → W p l e zr_m_X11_fill s m args below meth c H locs 0 0 Q (F0 m 114 ls [])) (ih : ∀ (S : zs_T) (x4 : Int64) (x6 : Int32), rec S x4 x6 = some oS → ∀ (H : Heap) (locs : List Loc) (ls : Array Slot), zg_W G S s H locs → lv_has ls 9 [(0, .ref (zg_q G 40)), (2, .int y2), (3, .int y3), (4, .long x4), (6, .int x6)] → W p l e zr_m_X11_fill s m args below meth c H locs 0 0 Q (F0 m 48 ls [])) (h : zj_X11_fill_90 rec S y2 y3 y4 y6 z0 z1 = some oS) (H : Heap) (locs : List Loc) (ls : Array Slot) (w : zg_W G S s H locs) (hl : lv_has ls 9 [(0, .ref (zg_q G 40)), (2, .int y2), (3, .int y3), (4, .long y4), (6, .int y6)]) : W p l e zr_m_X11_fill s m args below meth c H locs 0 0 Q (F0 m 90 ls [.long z0, .int z1, .ref (zg_q G 41)]) := by
  unfold zj_X11_fill_90 at h
  refine zr_last C w 41 (zw_g41 G _) (zw_s41 G _) dX11_fill_90 h (fun S5 H locs w h => ?_)
  refine lv_aload_n C.1 C.2.1 dX11_fill_91 rfl (lv_at hl 0 rfl) ?_
  refine lv_dup C.1 C.2.1 dX11_fill_92 rfl ?_
  refine zr_get C w 40 zm_w_X11 (zw_g40 G _) rfl 1 (by decide) zm_f_X11_88 rfl dX11_fill_93 ?_
  refine lv_iconst (v := 1) C.1 C.2.1 dX11_fill_96 (by decide) ?_
  refine lv_iadd C.1 C.2.1 dX11_fill_97 ?_
  refine zr_put C w 40 zm_w_X11 tyX11 tyX11_ok nmX11 (zw_g40 G _) rfl 1 (by decide) zm_f_X11_88 rfl (ty := .int) (by decide +kernel) rfl rfl (Nat.le_of_ble_eq_true rfl) (zw_f40_1 G _ _) dX11_fill_98 h (fun S6 H locs w h => ?_)
  refine lv_lload C.1 C.2.1 dX11_fill_101 (lv_at hl 3 rfl) ?_
  refine lv_iload_n C.1 C.2.1 dX11_fill_103 rfl (lv_at hl 1 rfl) ?_
  refine lv_i2l C.1 C.2.1 dX11_fill_104 rfl ?_
  refine lv_ladd C.1 C.2.1 dX11_fill_105 ?_
  refine zr_ltl h (fun v7 h => ?_)
  refine lv_lstore (lv' := [(4, .long v7), (0, .ref (zg_q G 40)), (2, .int y2), (3, .int y3), (6, .int y6)]) C.1 C.2.1 dX11_fill_106 hl (by decide) rfl (fun ls hl => ?_)
  obtain ⟨v8, e_, h⟩ := zc_lt_x h
  refine lv_iinc (v := v8) (lv' := [(6, .int v8), (4, .long v7), (0, .ref (zg_q G 40)), (2, .int y2), (3, .int y3)]) C.1 C.2.1 dX11_fill_108 hl (k := 4) rfl (by subst e_; rfl) (by decide) rfl (fun ls hl => ?_)
  clear e_
  refine lv_goto (tgt := 48) C.1 C.2.1 dX11_fill_111 (by decide) ?_
  exact ih _ _ _ h _ _ _ w (lv_sub hl [2, 3, 4, 1, 0] rfl)
set_option maxHeartbeats 4000000 in
set_option maxRecDepth 100000 in
theorem zk_X11_fill_48 {p : Program} {l : Launch} {e : Env} {s : State} {m : MethodId} {args : Array Value} {below : List Frame} {meth : Method} {c : Code} {G : zg_T} {Q : State → Prop} (C : zx_C p s m args meth c G RX11 cX11_fill 9) (f2 : Int32) (f3 : Int32) (oS : zs_T) (kont : ∀ (H : Heap) (locs : List Loc) (ls : Array Slot), zg_W G oS s H locs → lv_has ls 9 [(0, .ref (zg_q G 40))] → W p l e zr_m_X11_fill s m args below meth c H locs 0 0 Q (F0 m 114 ls [])) : ∀ (n : Nat) (S : zs_T) (x4 : Int64) (x6 : Int32), zl_3 (zb_X11_fill_48 f2 f3) n S x4 x6 = some oS → ∀ (H : Heap) (locs : List Loc) (ls : Array Slot), zg_W G S s H locs → lv_has ls 9 [(0, .ref (zg_q G 40)), (2, .int f2), (3, .int f3), (4, .long x4), (6, .int x6)] → W p l e zr_m_X11_fill s m args below meth c H locs 0 0 Q (F0 m 48 ls []) := by
  intro n
  induction n with
  | zero => intro S x4 x6 h; cases h
  | succ n ih =>
    intro S x4 x6 h H locs ls w hl
    replace h : zb_X11_fill_48 f2 f3 (zl_3 (zb_X11_fill_48 f2 f3) n) S x4 x6 = some oS := h
    generalize zl_3 (zb_X11_fill_48 f2 f3) n = rec at ih h
    unfold zb_X11_fill_48 at h
    refine lv_iload C.1 C.2.1 dX11_fill_48 (lv_at hl 4 rfl) ?_
    refine lv_iload_n C.1 C.2.1 dX11_fill_50 rfl (lv_at hl 2 rfl) ?_
    refine zr_ic_ge (tgt := 114) C dX11_fill_51 (by decide) h (fun h => ?_) (fun h => ?_)
    · cases h
      exact kont _ _ _ w (lv_sub hl [0] rfl)
    · refine lv_lload C.1 C.2.1 dX11_fill_54 (lv_at hl 3 rfl) ?_
      refine lv_ldc2 (v := 65535) C.1 C.2.1 C.2.2.2.1 (C.2.2.2.2.1 _ zm_k_X11_95) dX11_fill_56 ?_
      refine lv_land C.1 C.2.1 dX11_fill_59 ?_
      refine zr_ltl h (fun v4 h => ?_)
      refine lv_lstore (lv' := [(7, .long v4), (0, .ref (zg_q G 40)), (2, .int f2), (3, .int f3), (4, .long x4), (6, .int x6)]) C.1 C.2.1 dX11_fill_60 hl (by decide) rfl (fun ls hl => ?_)
      refine lv_aload_n C.1 C.2.1 dX11_fill_62 rfl (lv_at hl 1 rfl) ?_
      refine zr_get C w 40 zm_w_X11 (zw_g40 G _) rfl 2 (by decide) zm_f_X11_7 rfl dX11_fill_63 ?_
      refine lv_aload_n C.1 C.2.1 dX11_fill_66 rfl (lv_at hl 1 rfl) ?_
      refine zr_get C w 40 zm_w_X11 (zw_g40 G _) rfl 1 (by decide) zm_f_X11_88 rfl dX11_fill_67 ?_
      refine lv_lload C.1 C.2.1 dX11_fill_70 (lv_at hl 0 rfl) ?_
      refine lv_ldc2 (v := 32767) C.1 C.2.1 C.2.2.2.1 (C.2.2.2.2.1 _ zm_k_X11_72) dX11_fill_72 ?_
      refine zr_lc_le (tgt := 88) C dX11_fill_75 dX11_fill_76 (by decide) h (fun h => ?_) (fun h => ?_)
      · refine lv_lload C.1 C.2.1 dX11_fill_88 (lv_at hl 0 rfl) ?_
        exact zq_X11_fill_90 C rec _ _ _ _ _ _ _ _ kont ih h _ _ _ w (lv_sub hl [1, 2, 3, 4, 5] rfl)
      · refine lv_lload C.1 C.2.1 dX11_fill_79 (lv_at hl 0 rfl) ?_
        refine lv_ldc2 (v := 65536) C.1 C.2.1 C.2.2.2.1 (C.2.2.2.2.1 _ zm_k_X11_97) dX11_fill_81 ?_
        refine lv_lsub C.1 C.2.1 dX11_fill_84 ?_
        refine lv_goto (tgt := 90) C.1 C.2.1 dX11_fill_85 (by decide) ?_
        exact zq_X11_fill_90 C rec _ _ _ _ _ _ _ _ kont ih h _ _ _ w (lv_sub hl [1, 2, 3, 4, 5] rfl)
set_option maxHeartbeats 4000000 in
set_option maxRecDepth 100000 in
theorem zq_X11_fill_33 {p : Program} {l : Launch} {e : Env} {s : State} {m : MethodId} {args : Array Value} {below : List Frame} {meth : Method} {c : Code} {G : zg_T} (hr : meth.sig.returnType = (some .int)) (C : zx_C p s m args meth c G RX11 cX11_fill 9) (r : Int32) (S1 : zs_T) (S : zs_T) (y1 : Int32) (y2 : Int32) (y3 : Int32) (z0 : Int32) (h : zj_X11_fill_33 S y1 y2 y3 z0 = some (r, S1)) (H : Heap) (locs : List Loc) (ls : Array Slot) (w : zg_W G S s H locs) (hl : lv_has ls 9 [(0, .ref (zg_q G 40)), (1, .int y1), (2, .int y2), (3, .int y3)]) : W p l e zr_m_X11_fill s m args below meth c H locs 0 0 (MQ below (zg_Q G (some (.int r)) S1) args s 0 0 (zg_A G)) (F0 m 33 ls [.int z0, .ref (zg_q G 40)]) := by
  unfold zj_X11_fill_33 at h
  obtain ⟨v1, S2, hc, h⟩ := zc_b2_x h
  refine zr_callVi C w 40 (zw_g40 G _) rfl (As := [.int z0]) (zm_X11_refuses l G _ _ _ _ hc) zm_c_X11_refuses zm_l_X11_91 zm_i_X11_refuses zm_e_X11_refuses zm_0_X11 zm_d_X11_refuses ⟨rfl, rfl⟩ ⟨Nat.le_of_ble_eq_true rfl, Nat.le_of_ble_eq_true rfl⟩ hl.1 rfl rfl (Nat.le_of_ble_eq_true rfl) dX11_fill_33 ⟨Nat.le_of_ble_eq_true rfl, Nat.le_of_ble_eq_true rfl⟩ (fun H locs w => ?_)
  clear hc
  refine zr_if_eq (tgt := 41) C dX11_fill_36 (by decide) h (fun h => ?_) (fun h => ?_)
  · refine lv_iload_n C.1 C.2.1 dX11_fill_41 rfl (lv_at hl 1 rfl) ?_
    refine lv_i2l C.1 C.2.1 dX11_fill_42 rfl ?_
    refine zr_ltl h (fun v3 h => ?_)
    refine lv_lstore (lv' := [(4, .long v3), (0, .ref (zg_q G 40)), (1, .int y1), (2, .int y2), (3, .int y3)]) C.1 C.2.1 dX11_fill_43 hl (by decide) rfl (fun ls hl => ?_)
    refine lv_iconst (v := 0) C.1 C.2.1 dX11_fill_45 (by decide) ?_
    refine lv_istore (lv' := [(6, .int (0 : Int32)), (4, .long v3), (0, .ref (zg_q G 40)), (1, .int y1), (2, .int y2), (3, .int y3)]) C.1 C.2.1 dX11_fill_46 hl (by decide) rfl (fun ls hl => ?_)
    obtain ⟨S9, hc, h⟩ := zc_b1_x h
    refine zk_X11_fill_48 C y2 y3 S9 (fun H locs ls w hl => ?_) _ _ _ _ hc _ _ _ w (lv_sub hl [2, 4, 5, 1, 0] rfl)
    clear hc
    refine lv_aload_n C.1 C.2.1 dX11_fill_114 rfl (lv_at hl 0 rfl) ?_
    refine zr_get C w 40 zm_w_X11 (zw_g40 G _) rfl 1 (by decide) zm_f_X11_88 rfl dX11_fill_115 ?_
    exact zr_reti C w hr dX11_fill_118 (congrArg Prod.fst (Option.some.inj h)) (congrArg Prod.snd (Option.some.inj h))
  · refine lv_iconst (v := 0) C.1 C.2.1 dX11_fill_39 (by decide) ?_
    exact zr_reti C w hr dX11_fill_40 (congrArg Prod.fst (Option.some.inj h)) (congrArg Prod.snd (Option.some.inj h))
set_option maxHeartbeats 4000000 in
set_option maxRecDepth 100000 in
theorem zq_X11_fill_12 {p : Program} {l : Launch} {e : Env} {s : State} {m : MethodId} {args : Array Value} {below : List Frame} {meth : Method} {c : Code} {G : zg_T} (hr : meth.sig.returnType = (some .int)) (C : zx_C p s m args meth c G RX11 cX11_fill 9) (r : Int32) (S1 : zs_T) (S : zs_T) (y1 : Int32) (y2 : Int32) (y3 : Int32) (h : zj_X11_fill_12 S y1 y2 y3 = some (r, S1)) (H : Heap) (locs : List Loc) (ls : Array Slot) (w : zg_W G S s H locs) (hl : lv_has ls 9 [(0, .ref (zg_q G 40)), (1, .int y1), (2, .int y2), (3, .int y3)]) : W p l e zr_m_X11_fill s m args below meth c H locs 0 0 (MQ below (zg_Q G (some (.int r)) S1) args s 0 0 (zg_A G)) (F0 m 12 ls [.ref (zg_q G 40)]) := by
  unfold zj_X11_fill_12 at h
  refine lv_iconst (v := 1) C.1 C.2.1 dX11_fill_12 (by decide) ?_
  refine lv_goto (tgt := 33) C.1 C.2.1 dX11_fill_13 (by decide) ?_
  exact zq_X11_fill_33 hr C _ _ _ _ _ _ _ h _ _ _ w (lv_sub hl [0, 1, 2, 3] rfl)
set_option maxHeartbeats 4000000 in
set_option maxRecDepth 100000 in
theorem zm_X11_fill (l : Launch) (G : zg_T) (S : zs_T) (a1 : Int32) (a2 : Int32) (a3 : Int32) (r : Int32) (S1 : zs_T) (h : zf_X11_fill S a1 a2 a3 = some (r, S1)) : Met l yX11_fill (Cond.code yX11_fill cX11_fill 9 (some .int) :: zt_G) zr_m_X11_fill (va_Pc [.ref (zg_q G 40), .int a1, .int a2, .int a3] (zg_P G S)) (zg_Q G (some (.int r)) S1) 0 0 (zg_A G) := by
  refine zx_met (by decide +kernel) (Nat.le_of_ble_eq_true rfl) (lv := [(0, .ref (zg_q G 40)), (1, .int a1), (2, .int a2), (3, .int a3)]) rfl ?_
  intro p e s m below meth c C hr w ls hl
  replace C : zx_C p s m _ meth c G RX11 cX11_fill 9 := C
  unfold zf_X11_fill at h
  refine lv_aload_n C.1 C.2.1 dX11_fill_0 rfl (lv_at hl 0 rfl) ?_
  refine lv_iload_n C.1 C.2.1 dX11_fill_1 rfl (lv_at hl 3 rfl) ?_
  refine zr_if_lt (tgt := 12) C dX11_fill_2 (by decide) h (fun h => ?_) (fun h => ?_)
  · exact zq_X11_fill_12 hr C _ _ _ _ _ _ h _ _ _ w (lv_sub hl [0, 1, 2, 3] rfl)
  · refine lv_iload_n C.1 C.2.1 dX11_fill_5 rfl (lv_at hl 3 rfl) ?_
    refine lv_sipush (v := 160) C.1 C.2.1 dX11_fill_6 (by decide) ?_
    refine zr_ic_le (tgt := 16) C dX11_fill_9 (by decide) h (fun h => ?_) (fun h => ?_)
    · refine lv_aload_n C.1 C.2.1 dX11_fill_16 rfl (lv_at hl 0 rfl) ?_
      refine zr_get C w 40 zm_w_X11 (zw_g40 G _) rfl 1 (by decide) zm_f_X11_88 rfl dX11_fill_17 ?_
      refine lv_iload_n C.1 C.2.1 dX11_fill_20 rfl (lv_at hl 3 rfl) ?_
      refine lv_iadd C.1 C.2.1 dX11_fill_21 ?_
      refine lv_sipush (v := 160) C.1 C.2.1 dX11_fill_22 (by decide) ?_
      refine zr_ic_le (tgt := 32) C dX11_fill_25 (by decide) h (fun h => ?_) (fun h => ?_)
      · refine lv_iconst (v := 0) C.1 C.2.1 dX11_fill_32 (by decide) ?_
        exact zq_X11_fill_33 hr C _ _ _ _ _ _ _ h _ _ _ w (lv_sub hl [0, 1, 2, 3] rfl)
      · refine lv_iconst (v := 2) C.1 C.2.1 dX11_fill_28 (by decide) ?_
        refine lv_goto (tgt := 33) C.1 C.2.1 dX11_fill_29 (by decide) ?_
        exact zq_X11_fill_33 hr C _ _ _ _ _ _ _ h _ _ _ w (lv_sub hl [0, 1, 2, 3] rfl)
    · exact zq_X11_fill_12 hr C _ _ _ _ _ _ h _ _ _ w (lv_sub hl [0, 1, 2, 3] rfl)
set_option maxHeartbeats 4000000 in
set_option maxRecDepth 100000 in
theorem zm_X11_cut (l : Launch) (G : zg_T) (S : zs_T) (a1 : Int64) (r : Int64) (h : zf_X11_cut a1 = r) : Met l yX11_cut (Cond.code yX11_cut cX11_cut 2 (some .long) :: zt_G) zr_m_X11_cut (va_Pc [.long a1] (zg_P G S)) (zg_Q G (some (.long r)) S) 0 0 (zg_A G) := by
  refine zx_met (by decide +kernel) (Nat.le_of_ble_eq_true rfl) (lv := [(0, .long a1)]) rfl ?_
  intro p e s m below meth c C hr w ls hl
  replace C : zx_C p s m _ meth c G RX11 cX11_cut 2 := C
  unfold zf_X11_cut at h
  refine lv_lload_n C.1 C.2.1 dX11_cut_0 rfl (lv_at hl 0 rfl) ?_
  refine lv_ldc2 (v := 32767) C.1 C.2.1 C.2.2.2.1 (C.2.2.2.2.1 _ zm_k_X11_72) dX11_cut_1 ?_
  refine zr_lc_le (tgt := 14) C dX11_cut_4 dX11_cut_5 (by decide) h (fun h => ?_) (fun h => ?_)
  · refine lv_lload_n C.1 C.2.1 dX11_cut_14 rfl (lv_at hl 0 rfl) ?_
    refine lv_ldc2 (v := -32768) C.1 C.2.1 C.2.2.2.1 (C.2.2.2.2.1 _ zm_k_X11_74) dX11_cut_15 ?_
    refine zr_lc_ge (tgt := 28) C dX11_cut_18 dX11_cut_19 (by decide) h (fun h => ?_) (fun h => ?_)
    · refine lv_lload_n C.1 C.2.1 dX11_cut_28 rfl (lv_at hl 0 rfl) ?_
      exact zr_retl C w hr dX11_cut_29 h rfl
    · refine lv_ldc2 (v := -32768) C.1 C.2.1 C.2.2.2.1 (C.2.2.2.2.1 _ zm_k_X11_74) dX11_cut_22 ?_
      refine lv_goto (tgt := 29) C.1 C.2.1 dX11_cut_25 (by decide) ?_
      exact zr_retl C w hr dX11_cut_29 h rfl
  · refine lv_ldc2 (v := 32767) C.1 C.2.1 C.2.2.2.1 (C.2.2.2.2.1 _ zm_k_X11_72) dX11_cut_8 ?_
    refine lv_goto (tgt := 29) C.1 C.2.1 dX11_cut_11 (by decide) ?_
    exact zr_retl C w hr dX11_cut_29 h rfl
set_option maxHeartbeats 4000000 in
set_option maxRecDepth 100000 in
theorem zm_X11_rounded (l : Launch) (G : zg_T) (S : zs_T) (a1 : Int64) (a2 : Int64) (r : Int64) (h : zf_X11_rounded a1 a2 = r) : Met l yX11_rounded (Cond.code yX11_rounded cX11_rounded 4 (some .long) :: zt_G) zr_m_X11_rounded (va_Pc [.long a1, .long a2] (zg_P G S)) (zg_Q G (some (.long r)) S) 0 0 (zg_A G) := by
  refine zx_met (by decide +kernel) (Nat.le_of_ble_eq_true rfl) (lv := [(0, .long a1), (2, .long a2)]) rfl ?_
  intro p e s m below meth c C hr w ls hl
  replace C : zx_C p s m _ meth c G RX11 cX11_rounded 4 := C
  unfold zf_X11_rounded at h
  refine lv_lload_n C.1 C.2.1 dX11_rounded_0 rfl (lv_at hl 0 rfl) ?_
  refine lv_lload_n C.1 C.2.1 dX11_rounded_1 rfl (lv_at hl 1 rfl) ?_
  refine lv_lmul C.1 C.2.1 dX11_rounded_2 ?_
  refine lv_ldc2 (v := 16384) C.1 C.2.1 C.2.2.2.1 (C.2.2.2.2.1 _ zm_k_X11_80) dX11_rounded_3 ?_
  refine lv_ladd C.1 C.2.1 dX11_rounded_6 ?_
  refine lv_bipush (v := 15) C.1 C.2.1 dX11_rounded_7 (by decide) ?_
  refine lv_lshr C.1 C.2.1 dX11_rounded_9 rfl ?_
  refine zr_callSl C w (As := [.long (((a1 * a2) + (16384 : Int64)) >>> (Int32.toInt64 (15 : Int32) &&& 63))]) (zm_X11_cut l G _ _ _ rfl) zm_c_X11_cut zm_l_X11_82 zm_s_X11_cut zm_0_X11 zm_d_X11_cut ⟨rfl, rfl⟩ ⟨Nat.le_of_ble_eq_true rfl, Nat.le_of_ble_eq_true rfl⟩ hl.1 rfl rfl (Nat.le_of_ble_eq_true rfl) dX11_rounded_10 ⟨Nat.le_of_ble_eq_true rfl, Nat.le_of_ble_eq_true rfl⟩ (fun H locs w => ?_)
  refine zr_ltl h (fun v1 h => ?_)
  exact zr_retl C w hr dX11_rounded_13 h rfl
set_option maxHeartbeats 4000000 in
set_option maxRecDepth 100000 in
theorem zm_X11_wide (l : Launch) (G : zg_T) (S : zs_T) (a1 : Int64) (r : Int64) (h : zf_X11_wide a1 = r) : Met l yX11_wide (Cond.code yX11_wide cX11_wide 2 (some .long) :: zt_G) zr_m_X11_wide (va_Pc [.long a1] (zg_P G S)) (zg_Q G (some (.long r)) S) 0 0 (zg_A G) := by
  refine zx_met (by decide +kernel) (Nat.le_of_ble_eq_true rfl) (lv := [(0, .long a1)]) rfl ?_
  intro p e s m below meth c C hr w ls hl
  replace C : zx_C p s m _ meth c G RX11 cX11_wide 2 := C
  unfold zf_X11_wide at h
  refine lv_lload_n C.1 C.2.1 dX11_wide_0 rfl (lv_at hl 0 rfl) ?_
  refine lv_ldc2 (v := 2147483647) C.1 C.2.1 C.2.2.2.1 (C.2.2.2.2.1 _ zm_k_X11_76) dX11_wide_1 ?_
  refine zr_lc_le (tgt := 14) C dX11_wide_4 dX11_wide_5 (by decide) h (fun h => ?_) (fun h => ?_)
  · refine lv_lload_n C.1 C.2.1 dX11_wide_14 rfl (lv_at hl 0 rfl) ?_
    refine lv_ldc2 (v := -2147483648) C.1 C.2.1 C.2.2.2.1 (C.2.2.2.2.1 _ zm_k_X11_78) dX11_wide_15 ?_
    refine zr_lc_ge (tgt := 28) C dX11_wide_18 dX11_wide_19 (by decide) h (fun h => ?_) (fun h => ?_)
    · refine lv_lload_n C.1 C.2.1 dX11_wide_28 rfl (lv_at hl 0 rfl) ?_
      exact zr_retl C w hr dX11_wide_29 h rfl
    · refine lv_ldc2 (v := -2147483648) C.1 C.2.1 C.2.2.2.1 (C.2.2.2.2.1 _ zm_k_X11_78) dX11_wide_22 ?_
      refine lv_goto (tgt := 29) C.1 C.2.1 dX11_wide_25 (by decide) ?_
      exact zr_retl C w hr dX11_wide_29 h rfl
  · refine lv_ldc2 (v := 2147483647) C.1 C.2.1 C.2.2.2.1 (C.2.2.2.2.1 _ zm_k_X11_76) dX11_wide_8 ?_
    refine lv_goto (tgt := 29) C.1 C.2.1 dX11_wide_11 (by decide) ?_
    exact zr_retl C w hr dX11_wide_29 h rfl
set_option maxHeartbeats 4000000 in
set_option maxRecDepth 100000 in
theorem zk_X11_prepares_2 {p : Program} {l : Launch} {e : Env} {s : State} {m : MethodId} {args : Array Value} {below : List Frame} {meth : Method} {c : Code} {G : zg_T} {Q : State → Prop} (C : zx_C p s m args meth c G RX11 cX11_prepares 12) (oS : zs_T) (kont : ∀ (H : Heap) (locs : List Loc) (ls : Array Slot), zg_W G oS s H locs → lv_has ls 12 [] → W p l e zr_m_X11_prepares s m args below meth c H locs 0 0 Q (F0 m 139 ls [])) : ∀ (n : Nat) (S : zs_T) (x1 : Int32), zl_2 (zb_X11_prepares_2) n S x1 = some oS → ∀ (H : Heap) (locs : List Loc) (ls : Array Slot), zg_W G S s H locs → lv_has ls 12 [(0, .ref (zg_q G 40)), (1, .int x1)] → W p l e zr_m_X11_prepares s m args below meth c H locs 0 0 Q (F0 m 2 ls []) := by
  intro n
  induction n with
  | zero => intro S x1 h; cases h
  | succ n ih =>
    intro S x1 h H locs ls w hl
    replace h : zb_X11_prepares_2 (zl_2 (zb_X11_prepares_2) n) S x1 = some oS := h
    generalize zl_2 (zb_X11_prepares_2) n = rec at ih h
    unfold zb_X11_prepares_2 at h
    refine lv_iload_n C.1 C.2.1 dX11_prepares_2 rfl (lv_at hl 1 rfl) ?_
    refine lv_sipush (v := 160) C.1 C.2.1 dX11_prepares_3 (by decide) ?_
    refine zr_ic_ge (tgt := 139) C dX11_prepares_6 (by decide) h (fun h => ?_) (fun h => ?_)
    · cases h
      exact kont _ _ _ w (lv_sub hl [] rfl)
    · refine lv_aload_n C.1 C.2.1 dX11_prepares_9 rfl (lv_at hl 0 rfl) ?_
      refine zr_get C w 40 zm_w_X11 (zw_g40 G _) rfl 2 (by decide) zm_f_X11_7 rfl dX11_prepares_10 ?_
      refine lv_iload_n C.1 C.2.1 dX11_prepares_13 rfl (lv_at hl 1 rfl) ?_
      refine zr_lald C w 41 (zw_g41 G _) dX11_prepares_14 h (fun h => ?_)
      refine lv_iconst (v := 3) C.1 C.2.1 dX11_prepares_15 (by decide) ?_
      refine lv_lshr C.1 C.2.1 dX11_prepares_16 rfl ?_
      refine lv_ldc2 (v := 4) C.1 C.2.1 C.2.2.2.1 (C.2.2.2.2.1 _ zm_k_X11_99) dX11_prepares_17 ?_
      refine lv_lmul C.1 C.2.1 dX11_prepares_20 ?_
      refine zr_ltl h (fun v1 h => ?_)
      refine lv_lstore_n (lv' := [(2, .long v1), (0, .ref (zg_q G 40)), (1, .int x1)]) C.1 C.2.1 dX11_prepares_21 rfl hl (by decide) rfl (fun ls hl => ?_)
      refine lv_lload_n C.1 C.2.1 dX11_prepares_22 rfl (lv_at hl 0 rfl) ?_
      refine lv_aload_n C.1 C.2.1 dX11_prepares_23 rfl (lv_at hl 1 rfl) ?_
      refine zr_get C w 40 zm_w_X11 (zw_g40 G _) rfl 9 (by decide) zm_f_X11_101 rfl dX11_prepares_24 ?_
      refine lv_lsub C.1 C.2.1 dX11_prepares_27 ?_
      refine lv_ldc2 (v := 32768) C.1 C.2.1 C.2.2.2.1 (C.2.2.2.2.1 _ zm_k_X11_105) dX11_prepares_28 ?_
      refine lv_lmul C.1 C.2.1 dX11_prepares_31 ?_
      refine zr_ltl h (fun v2 h => ?_)
      refine lv_lstore (lv' := [(4, .long v2), (2, .long v1), (0, .ref (zg_q G 40)), (1, .int x1)]) C.1 C.2.1 dX11_prepares_32 hl (by decide) rfl (fun ls hl => ?_)
      refine lv_aload_n C.1 C.2.1 dX11_prepares_34 rfl (lv_at hl 2 rfl) ?_
      refine lv_lload_n C.1 C.2.1 dX11_prepares_35 rfl (lv_at hl 1 rfl) ?_
      refine zr_put C w 40 zm_w_X11 tyX11 tyX11_ok nmX11 (zw_g40 G _) rfl 9 (by decide) zm_f_X11_101 rfl (ty := .long) (by decide +kernel) rfl rfl (Nat.le_of_ble_eq_true rfl) (zw_f40_9 G _ _) dX11_prepares_36 h (fun S3 H locs w h => ?_)
      refine lv_aload_n C.1 C.2.1 dX11_prepares_39 rfl (lv_at hl 2 rfl) ?_
      refine zr_get C w 40 zm_w_X11 (zw_g40 G _) rfl 10 (by decide) zm_f_X11_107 rfl dX11_prepares_40 ?_
      refine lv_bipush (v := 15) C.1 C.2.1 dX11_prepares_43 (by decide) ?_
      refine lv_lshr C.1 C.2.1 dX11_prepares_45 rfl ?_
      refine zr_ltl h (fun v4 h => ?_)
      refine lv_lstore (lv' := [(6, .long v4), (4, .long v2), (2, .long v1), (0, .ref (zg_q G 40)), (1, .int x1)]) C.1 C.2.1 dX11_prepares_46 hl (by decide) rfl (fun ls hl => ?_)
      refine lv_aload_n C.1 C.2.1 dX11_prepares_48 rfl (lv_at hl 3 rfl) ?_
      refine zr_get C w 40 zm_w_X11 (zw_g40 G _) rfl 10 (by decide) zm_f_X11_107 rfl dX11_prepares_49 ?_
      refine lv_lload C.1 C.2.1 dX11_prepares_52 (lv_at hl 0 rfl) ?_
      refine lv_ldc2 (v := 32768) C.1 C.2.1 C.2.2.2.1 (C.2.2.2.2.1 _ zm_k_X11_105) dX11_prepares_54 ?_
      refine lv_lmul C.1 C.2.1 dX11_prepares_57 ?_
      refine lv_lsub C.1 C.2.1 dX11_prepares_58 ?_
      refine zr_ltl h (fun v5 h => ?_)
      refine lv_lstore (lv' := [(8, .long v5), (6, .long v4), (4, .long v2), (2, .long v1), (0, .ref (zg_q G 40)), (1, .int x1)]) C.1 C.2.1 dX11_prepares_59 hl (by decide) rfl (fun ls hl => ?_)
      refine lv_aload_n C.1 C.2.1 dX11_prepares_61 rfl (lv_at hl 4 rfl) ?_
      refine lv_lload C.1 C.2.1 dX11_prepares_62 (lv_at hl 1 rfl) ?_
      refine lv_ldc2 (v := 32735) C.1 C.2.1 C.2.2.2.1 (C.2.2.2.2.1 _ zm_k_X11_110) dX11_prepares_64 ?_
      refine lv_lmul C.1 C.2.1 dX11_prepares_67 ?_
      refine lv_lload C.1 C.2.1 dX11_prepares_68 (lv_at hl 2 rfl) ?_
      refine lv_ladd C.1 C.2.1 dX11_prepares_70 ?_
      refine lv_lload C.1 C.2.1 dX11_prepares_71 (lv_at hl 0 rfl) ?_
      refine lv_ldc2 (v := 32735) C.1 C.2.1 C.2.2.2.1 (C.2.2.2.2.1 _ zm_k_X11_110) dX11_prepares_73 ?_
      refine zr_callSl C w (As := [.long v5, .long (32735 : Int64)]) (zm_X11_rounded l G _ _ _ _ rfl) zm_c_X11_rounded zm_l_X11_112 zm_s_X11_rounded zm_0_X11 zm_d_X11_rounded ⟨rfl, rfl⟩ ⟨Nat.le_of_ble_eq_true rfl, Nat.le_of_ble_eq_true rfl⟩ hl.1 rfl rfl (Nat.le_of_ble_eq_true rfl) dX11_prepares_76 ⟨Nat.le_of_ble_eq_true rfl, Nat.le_of_ble_eq_true rfl⟩ (fun H locs w => ?_)
      refine zr_ltl h (fun v6 h => ?_)
      refine lv_ladd C.1 C.2.1 dX11_prepares_79 ?_
      refine zr_callSl C w (As := [.long (((v4 * (32735 : Int64)) + v2) + v6)]) (zm_X11_wide l G _ _ _ rfl) zm_c_X11_wide zm_l_X11_116 zm_s_X11_wide zm_0_X11 zm_d_X11_wide ⟨rfl, rfl⟩ ⟨Nat.le_of_ble_eq_true rfl, Nat.le_of_ble_eq_true rfl⟩ hl.1 rfl rfl (Nat.le_of_ble_eq_true rfl) dX11_prepares_80 ⟨Nat.le_of_ble_eq_true rfl, Nat.le_of_ble_eq_true rfl⟩ (fun H locs w => ?_)
      refine zr_ltl h (fun v7 h => ?_)
      refine zr_put C w 40 zm_w_X11 tyX11 tyX11_ok nmX11 (zw_g40 G _) rfl 10 (by decide) zm_f_X11_107 rfl (ty := .long) (by decide +kernel) rfl rfl (Nat.le_of_ble_eq_true rfl) (zw_f40_10 G _ _) dX11_prepares_83 h (fun S8 H locs w h => ?_)
      refine lv_aload_n C.1 C.2.1 dX11_prepares_86 rfl (lv_at hl 4 rfl) ?_
      refine zr_get C w 40 zm_w_X11 (zw_g40 G _) rfl 10 (by decide) zm_f_X11_107 rfl dX11_prepares_87 ?_
      refine lv_ldc2 (v := 16384) C.1 C.2.1 C.2.2.2.1 (C.2.2.2.2.1 _ zm_k_X11_80) dX11_prepares_90 ?_
      refine lv_ladd C.1 C.2.1 dX11_prepares_93 ?_
      refine zr_callSl C w (As := [.long ((S8.2 40 10) + (16384 : Int64))]) (zm_X11_wide l G _ _ _ rfl) zm_c_X11_wide zm_l_X11_116 zm_s_X11_wide zm_0_X11 zm_d_X11_wide ⟨rfl, rfl⟩ ⟨Nat.le_of_ble_eq_true rfl, Nat.le_of_ble_eq_true rfl⟩ hl.1 rfl rfl (Nat.le_of_ble_eq_true rfl) dX11_prepares_94 ⟨Nat.le_of_ble_eq_true rfl, Nat.le_of_ble_eq_true rfl⟩ (fun H locs w => ?_)
      refine zr_ltl h (fun v9 h => ?_)
      refine lv_bipush (v := 15) C.1 C.2.1 dX11_prepares_97 (by decide) ?_
      refine lv_lshr C.1 C.2.1 dX11_prepares_99 rfl ?_
      refine zr_callSl C w (As := [.long (v9 >>> (Int32.toInt64 (15 : Int32) &&& 63))]) (zm_X11_cut l G _ _ _ rfl) zm_c_X11_cut zm_l_X11_82 zm_s_X11_cut zm_0_X11 zm_d_X11_cut ⟨rfl, rfl⟩ ⟨Nat.le_of_ble_eq_true rfl, Nat.le_of_ble_eq_true rfl⟩ hl.1 rfl rfl (Nat.le_of_ble_eq_true rfl) dX11_prepares_100 ⟨Nat.le_of_ble_eq_true rfl, Nat.le_of_ble_eq_true rfl⟩ (fun H locs w => ?_)
      refine zr_ltl h (fun v10 h => ?_)
      refine lv_lstore (lv' := [(10, .long v10), (8, .long v5), (6, .long v4), (4, .long v2), (2, .long v1), (0, .ref (zg_q G 40)), (1, .int x1)]) C.1 C.2.1 dX11_prepares_103 hl (by decide) rfl (fun ls hl => ?_)
      refine lv_aload_n C.1 C.2.1 dX11_prepares_105 rfl (lv_at hl 5 rfl) ?_
      refine zr_get C w 40 zm_w_X11 (zw_g40 G _) rfl 18 (by decide) zm_f_X11_39 rfl dX11_prepares_106 ?_
      refine lv_iload_n C.1 C.2.1 dX11_prepares_109 rfl (lv_at hl 6 rfl) ?_
      refine lv_lload C.1 C.2.1 dX11_prepares_110 (lv_at hl 0 rfl) ?_
      refine lv_aload_n C.1 C.2.1 dX11_prepares_112 rfl (lv_at hl 5 rfl) ?_
      refine zr_get C w 40 zm_w_X11 (zw_g40 G _) rfl 11 (by decide) zm_f_X11_119 rfl dX11_prepares_113 ?_
      refine lv_ldc2 (v := -28180) C.1 C.2.1 C.2.2.2.1 (C.2.2.2.2.1 _ zm_k_X11_122) dX11_prepares_116 ?_
      refine zr_callSl C w (As := [.long (S8.2 40 11), .long (-28180 : Int64)]) (zm_X11_rounded l G _ _ _ _ rfl) zm_c_X11_rounded zm_l_X11_112 zm_s_X11_rounded zm_0_X11 zm_d_X11_rounded ⟨rfl, rfl⟩ ⟨Nat.le_of_ble_eq_true rfl, Nat.le_of_ble_eq_true rfl⟩ hl.1 rfl rfl (Nat.le_of_ble_eq_true rfl) dX11_prepares_119 ⟨Nat.le_of_ble_eq_true rfl, Nat.le_of_ble_eq_true rfl⟩ (fun H locs w => ?_)
      refine zr_ltl h (fun v11 h => ?_)
      refine lv_ladd C.1 C.2.1 dX11_prepares_122 ?_
      refine zr_callSl C w (As := [.long (v10 + v11)]) (zm_X11_cut l G _ _ _ rfl) zm_c_X11_cut zm_l_X11_82 zm_s_X11_cut zm_0_X11 zm_d_X11_cut ⟨rfl, rfl⟩ ⟨Nat.le_of_ble_eq_true rfl, Nat.le_of_ble_eq_true rfl⟩ hl.1 rfl rfl (Nat.le_of_ble_eq_true rfl) dX11_prepares_123 ⟨Nat.le_of_ble_eq_true rfl, Nat.le_of_ble_eq_true rfl⟩ (fun H locs w => ?_)
      refine zr_ltl h (fun v12 h => ?_)
      refine zr_last C w 49 (zw_g49 G _) (zw_s49 G _) dX11_prepares_126 h (fun S13 H locs w h => ?_)
      refine lv_aload_n C.1 C.2.1 dX11_prepares_127 rfl (lv_at hl 5 rfl) ?_
      refine lv_lload C.1 C.2.1 dX11_prepares_128 (lv_at hl 0 rfl) ?_
      refine zr_put C w 40 zm_w_X11 tyX11 tyX11_ok nmX11 (zw_g40 G _) rfl 11 (by decide) zm_f_X11_119 rfl (ty := .long) (by decide +kernel) rfl rfl (Nat.le_of_ble_eq_true rfl) (zw_f40_11 G _ _) dX11_prepares_130 h (fun S14 H locs w h => ?_)
      obtain ⟨v15, e_, h⟩ := zc_lt_x h
      refine lv_iinc (v := v15) (lv' := [(1, .int v15), (10, .long v10), (8, .long v5), (6, .long v4), (4, .long v2), (2, .long v1), (0, .ref (zg_q G 40))]) C.1 C.2.1 dX11_prepares_133 hl (k := 6) rfl (by subst e_; rfl) (by decide) rfl (fun ls hl => ?_)
      clear e_
      refine lv_goto (tgt := 2) C.1 C.2.1 dX11_prepares_136 (by decide) ?_
      exact ih _ _ h _ _ _ w (lv_sub hl [6, 0] rfl)
set_option maxHeartbeats 4000000 in
set_option maxRecDepth 100000 in
theorem zm_X11_prepares (l : Launch) (G : zg_T) (S : zs_T) (S1 : zs_T) (h : zf_X11_prepares S = some S1) : Met l yX11_prepares (Cond.code yX11_prepares cX11_prepares 12 none :: zt_G) zr_m_X11_prepares (va_Pc [.ref (zg_q G 40)] (zg_P G S)) (zg_Q G none S1) 0 0 (zg_A G) := by
  refine zx_met (by decide +kernel) (Nat.le_of_ble_eq_true rfl) (lv := [(0, .ref (zg_q G 40))]) rfl ?_
  intro p e s m below meth c C hr w ls hl
  replace C : zx_C p s m _ meth c G RX11 cX11_prepares 12 := C
  unfold zf_X11_prepares at h
  refine lv_iconst (v := 0) C.1 C.2.1 dX11_prepares_0 (by decide) ?_
  refine lv_istore_n (lv' := [(1, .int (0 : Int32)), (0, .ref (zg_q G 40))]) C.1 C.2.1 dX11_prepares_1 rfl hl (by decide) rfl (fun ls hl => ?_)
  obtain ⟨S16, hc, h⟩ := zc_b1_x h
  refine zk_X11_prepares_2 C S16 (fun H locs ls w hl => ?_) _ _ _ hc _ _ _ w (lv_sub hl [1, 0] rfl)
  clear hc
  exact zr_retv C w hr dX11_prepares_139 (Option.some.inj h)
set_option maxHeartbeats 4000000 in
set_option maxRecDepth 100000 in
theorem zm_X11_size (l : Launch) (G : zg_T) (S : zs_T) (a1 : Int64) (r : Int64) (h : zf_X11_size a1 = r) : Met l yX11_size (Cond.code yX11_size cX11_size 2 (some .long) :: zt_G) zr_m_X11_size (va_Pc [.long a1] (zg_P G S)) (zg_Q G (some (.long r)) S) 0 0 (zg_A G) := by
  refine zx_met (by decide +kernel) (Nat.le_of_ble_eq_true rfl) (lv := [(0, .long a1)]) rfl ?_
  intro p e s m below meth c C hr w ls hl
  replace C : zx_C p s m _ meth c G RX11 cX11_size 2 := C
  unfold zf_X11_size at h
  refine lv_lload_n C.1 C.2.1 dX11_size_0 rfl (lv_at hl 0 rfl) ?_
  refine lv_lconst (v := 0) C.1 C.2.1 dX11_size_1 (by decide) ?_
  refine zr_lc_ge (tgt := 11) C dX11_size_2 dX11_size_3 (by decide) h (fun h => ?_) (fun h => ?_)
  · refine lv_lload_n C.1 C.2.1 dX11_size_11 rfl (lv_at hl 0 rfl) ?_
    refine zr_callSl C w (As := [.long a1]) (zm_X11_cut l G _ _ _ rfl) zm_c_X11_cut zm_l_X11_82 zm_s_X11_cut zm_0_X11 zm_d_X11_cut ⟨rfl, rfl⟩ ⟨Nat.le_of_ble_eq_true rfl, Nat.le_of_ble_eq_true rfl⟩ hl.1 rfl rfl (Nat.le_of_ble_eq_true rfl) dX11_size_12 ⟨Nat.le_of_ble_eq_true rfl, Nat.le_of_ble_eq_true rfl⟩ (fun H locs w => ?_)
    refine zr_ltl h (fun v1 h => ?_)
    exact zr_retl C w hr dX11_size_15 h rfl
  · refine lv_lload_n C.1 C.2.1 dX11_size_6 rfl (lv_at hl 0 rfl) ?_
    refine lv_lneg C.1 C.2.1 dX11_size_7 ?_
    refine lv_goto (tgt := 12) C.1 C.2.1 dX11_size_8 (by decide) ?_
    refine zr_callSl C w (As := [.long (-a1)]) (zm_X11_cut l G _ _ _ rfl) zm_c_X11_cut zm_l_X11_82 zm_s_X11_cut zm_0_X11 zm_d_X11_cut ⟨rfl, rfl⟩ ⟨Nat.le_of_ble_eq_true rfl, Nat.le_of_ble_eq_true rfl⟩ hl.1 rfl rfl (Nat.le_of_ble_eq_true rfl) dX11_size_12 ⟨Nat.le_of_ble_eq_true rfl, Nat.le_of_ble_eq_true rfl⟩ (fun H locs w => ?_)
    refine zr_ltl h (fun v2 h => ?_)
    exact zr_retl C w hr dX11_size_15 h rfl
set_option maxHeartbeats 4000000 in
set_option maxRecDepth 100000 in
theorem zk_X11_greatest_5_49 {p : Program} {l : Launch} {e : Env} {s : State} {m : MethodId} {args : Array Value} {below : List Frame} {meth : Method} {c : Code} {G : zg_T} {Q : State → Prop} (C : zx_C p s m args meth c G RX11 cX11_greatest 6) (S : zs_T) (f1 : Int32) (f2 : Int32) (o3 : Int64) (kont : ∀ (H : Heap) (locs : List Loc) (ls : Array Slot), zg_W G S s H locs → lv_has ls 6 [(3, .long o3)] → W p l e zr_m_X11_greatest s m args below meth c H locs 0 0 Q (F0 m 43 ls [])) : ∀ (n : Nat) (x3 : Int64) (x5 : Int32), zl_2 (zb_X11_greatest_5 49 S f1 f2) n x3 x5 = some o3 → ∀ (H : Heap) (locs : List Loc) (ls : Array Slot), zg_W G S s H locs → lv_has ls 6 [(0, .ref (zg_q G 49)), (1, .int f1), (2, .int f2), (3, .long x3), (5, .int x5)] → W p l e zr_m_X11_greatest s m args below meth c H locs 0 0 Q (F0 m 5 ls []) := by
  intro n
  induction n with
  | zero => intro x3 x5 h; cases h
  | succ n ih =>
    intro x3 x5 h H locs ls w hl
    replace h : zb_X11_greatest_5 49 S f1 f2 (zl_2 (zb_X11_greatest_5 49 S f1 f2) n) x3 x5 = some o3 := h
    generalize zl_2 (zb_X11_greatest_5 49 S f1 f2) n = rec at ih h
    unfold zb_X11_greatest_5 at h
    refine lv_iload C.1 C.2.1 dX11_greatest_5 (lv_at hl 4 rfl) ?_
    refine lv_iload_n C.1 C.2.1 dX11_greatest_7 rfl (lv_at hl 1 rfl) ?_
    refine lv_iload_n C.1 C.2.1 dX11_greatest_8 rfl (lv_at hl 2 rfl) ?_
    refine lv_iadd C.1 C.2.1 dX11_greatest_9 ?_
    refine zr_ic_ge (tgt := 43) C dX11_greatest_10 (by decide) h (fun h => ?_) (fun h => ?_)
    · cases h
      exact kont _ _ _ w (lv_sub hl [3] rfl)
    · refine lv_aload_n C.1 C.2.1 dX11_greatest_13 rfl (lv_at hl 0 rfl) ?_
      refine lv_iload C.1 C.2.1 dX11_greatest_14 (lv_at hl 4 rfl) ?_
      refine zr_lald C w 49 (zw_g49 G _) dX11_greatest_16 h (fun h => ?_)
      refine zr_callSl C w (As := [.long (S.2 49 (Int32.toNatClampNeg x5))]) (zm_X11_size l G _ _ _ rfl) zm_c_X11_size zm_l_X11_124 zm_s_X11_size zm_0_X11 zm_d_X11_size ⟨rfl, rfl⟩ ⟨Nat.le_of_ble_eq_true rfl, Nat.le_of_ble_eq_true rfl⟩ hl.1 rfl rfl (Nat.le_of_ble_eq_true rfl) dX11_greatest_17 ⟨Nat.le_of_ble_eq_true rfl, Nat.le_of_ble_eq_true rfl⟩ (fun H locs w => ?_)
      refine zr_ltl h (fun v1 h => ?_)
      refine lv_lload_n C.1 C.2.1 dX11_greatest_20 rfl (lv_at hl 3 rfl) ?_
      refine zr_lc_le (tgt := 35) C dX11_greatest_21 dX11_greatest_22 (by decide) h (fun h => ?_) (fun h => ?_)
      · refine lv_lload_n C.1 C.2.1 dX11_greatest_35 rfl (lv_at hl 3 rfl) ?_
        refine lv_lstore_n (lv' := [(3, .long x3), (0, .ref (zg_q G 49)), (1, .int f1), (2, .int f2), (5, .int x5)]) C.1 C.2.1 dX11_greatest_36 rfl hl (by decide) rfl (fun ls hl => ?_)
        obtain ⟨v2, e_, h⟩ := zc_lt_x h
        refine lv_iinc (v := v2) (lv' := [(5, .int v2), (3, .long x3), (0, .ref (zg_q G 49)), (1, .int f1), (2, .int f2)]) C.1 C.2.1 dX11_greatest_37 hl (k := 4) rfl (by subst e_; rfl) (by decide) rfl (fun ls hl => ?_)
        clear e_
        refine lv_goto (tgt := 5) C.1 C.2.1 dX11_greatest_40 (by decide) ?_
        exact ih _ _ h _ _ _ w (lv_sub hl [2, 3, 4, 1, 0] rfl)
      · refine lv_aload_n C.1 C.2.1 dX11_greatest_25 rfl (lv_at hl 0 rfl) ?_
        refine lv_iload C.1 C.2.1 dX11_greatest_26 (lv_at hl 4 rfl) ?_
        refine zr_lald C w 49 (zw_g49 G _) dX11_greatest_28 h (fun h => ?_)
        refine zr_callSl C w (As := [.long (S.2 49 (Int32.toNatClampNeg x5))]) (zm_X11_size l G _ _ _ rfl) zm_c_X11_size zm_l_X11_124 zm_s_X11_size zm_0_X11 zm_d_X11_size ⟨rfl, rfl⟩ ⟨Nat.le_of_ble_eq_true rfl, Nat.le_of_ble_eq_true rfl⟩ hl.1 rfl rfl (Nat.le_of_ble_eq_true rfl) dX11_greatest_29 ⟨Nat.le_of_ble_eq_true rfl, Nat.le_of_ble_eq_true rfl⟩ (fun H locs w => ?_)
        refine zr_ltl h (fun v3 h => ?_)
        refine lv_goto (tgt := 36) C.1 C.2.1 dX11_greatest_32 (by decide) ?_
        refine lv_lstore_n (lv' := [(3, .long v3), (0, .ref (zg_q G 49)), (1, .int f1), (2, .int f2), (5, .int x5)]) C.1 C.2.1 dX11_greatest_36 rfl hl (by decide) rfl (fun ls hl => ?_)
        obtain ⟨v4, e_, h⟩ := zc_lt_x h
        refine lv_iinc (v := v4) (lv' := [(5, .int v4), (3, .long v3), (0, .ref (zg_q G 49)), (1, .int f1), (2, .int f2)]) C.1 C.2.1 dX11_greatest_37 hl (k := 4) rfl (by subst e_; rfl) (by decide) rfl (fun ls hl => ?_)
        clear e_
        refine lv_goto (tgt := 5) C.1 C.2.1 dX11_greatest_40 (by decide) ?_
        exact ih _ _ h _ _ _ w (lv_sub hl [2, 3, 4, 1, 0] rfl)
set_option maxHeartbeats 4000000 in
set_option maxRecDepth 100000 in
theorem zm_X11_greatest_49 (l : Launch) (G : zg_T) (S : zs_T) (a1 : Int32) (a2 : Int32) (r : Int64) (h : zf_X11_greatest 49 S a1 a2 = some r) : Met l yX11_greatest (Cond.code yX11_greatest cX11_greatest 6 (some .long) :: zt_G) zr_m_X11_greatest (va_Pc [.ref (zg_q G 49), .int a1, .int a2] (zg_P G S)) (zg_Q G (some (.long r)) S) 0 0 (zg_A G) := by
  refine zx_met (by decide +kernel) (Nat.le_of_ble_eq_true rfl) (lv := [(0, .ref (zg_q G 49)), (1, .int a1), (2, .int a2)]) rfl ?_
  intro p e s m below meth c C hr w ls hl
  replace C : zx_C p s m _ meth c G RX11 cX11_greatest 6 := C
  unfold zf_X11_greatest at h
  refine lv_lconst (v := 0) C.1 C.2.1 dX11_greatest_0 (by decide) ?_
  refine lv_lstore_n (lv' := [(3, .long (0 : Int64)), (0, .ref (zg_q G 49)), (1, .int a1), (2, .int a2)]) C.1 C.2.1 dX11_greatest_1 rfl hl (by decide) rfl (fun ls hl => ?_)
  refine lv_iload_n C.1 C.2.1 dX11_greatest_2 rfl (lv_at hl 2 rfl) ?_
  refine lv_istore (lv' := [(5, .int a1), (3, .long (0 : Int64)), (0, .ref (zg_q G 49)), (1, .int a1), (2, .int a2)]) C.1 C.2.1 dX11_greatest_3 hl (by decide) rfl (fun ls hl => ?_)
  obtain ⟨v5, hc, h⟩ := zc_b1_x h
  refine zk_X11_greatest_5_49 C _ a1 a2 v5 (fun H locs ls w hl => ?_) _ _ _ hc _ _ _ w (lv_sub hl [2, 3, 4, 1, 0] rfl)
  clear hc
  refine lv_lload_n C.1 C.2.1 dX11_greatest_43 rfl (lv_at hl 0 rfl) ?_
  exact zr_retl C w hr dX11_greatest_44 (Option.some.inj h) rfl
set_option maxHeartbeats 4000000 in
set_option maxRecDepth 100000 in
theorem zk_X11_norm_2 {p : Program} {l : Launch} {e : Env} {s : State} {m : MethodId} {args : Array Value} {below : List Frame} {meth : Method} {c : Code} {G : zg_T} {Q : State → Prop} (C : zx_C p s m args meth c G RX11 cX11_norm 3) (S : zs_T) (f0 : Int64) (o2 : Int32) (kont : ∀ (H : Heap) (locs : List Loc) (ls : Array Slot), zg_W G S s H locs → lv_has ls 3 [(2, .int o2)] → W p l e zr_m_X11_norm s m args below meth c H locs 0 0 Q (F0 m 18 ls [])) : ∀ (n : Nat) (x2 : Int32), zl_1 (zb_X11_norm_2 f0) n x2 = some o2 → ∀ (H : Heap) (locs : List Loc) (ls : Array Slot), zg_W G S s H locs → lv_has ls 3 [(0, .long f0), (2, .int x2)] → W p l e zr_m_X11_norm s m args below meth c H locs 0 0 Q (F0 m 2 ls []) := by
  intro n
  induction n with
  | zero => intro x2 h; cases h
  | succ n ih =>
    intro x2 h H locs ls w hl
    replace h : zb_X11_norm_2 f0 (zl_1 (zb_X11_norm_2 f0) n) x2 = some o2 := h
    generalize zl_1 (zb_X11_norm_2 f0) n = rec at ih h
    unfold zb_X11_norm_2 at h
    refine lv_lload_n C.1 C.2.1 dX11_norm_2 rfl (lv_at hl 0 rfl) ?_
    refine lv_iload_n C.1 C.2.1 dX11_norm_3 rfl (lv_at hl 1 rfl) ?_
    refine lv_lshl C.1 C.2.1 dX11_norm_4 rfl ?_
    refine lv_ldc2 (v := 1073741824) C.1 C.2.1 C.2.2.2.1 (C.2.2.2.2.1 _ zm_k_X11_86) dX11_norm_5 ?_
    refine zr_lc_ge (tgt := 18) C dX11_norm_8 dX11_norm_9 (by decide) h (fun h => ?_) (fun h => ?_)
    · cases h
      exact kont _ _ _ w (lv_sub hl [1] rfl)
    · obtain ⟨v1, e_, h⟩ := zc_lt_x h
      refine lv_iinc (v := v1) (lv' := [(2, .int v1), (0, .long f0)]) C.1 C.2.1 dX11_norm_12 hl (k := 1) rfl (by subst e_; rfl) (by decide) rfl (fun ls hl => ?_)
      clear e_
      refine lv_goto (tgt := 2) C.1 C.2.1 dX11_norm_15 (by decide) ?_
      exact ih _ h _ _ _ w (lv_sub hl [1, 0] rfl)
set_option maxHeartbeats 4000000 in
set_option maxRecDepth 100000 in
theorem zm_X11_norm (l : Launch) (G : zg_T) (S : zs_T) (a1 : Int64) (r : Int32) (h : zf_X11_norm a1 = some r) : Met l yX11_norm (Cond.code yX11_norm cX11_norm 3 (some .int) :: zt_G) zr_m_X11_norm (va_Pc [.long a1] (zg_P G S)) (zg_Q G (some (.int r)) S) 0 0 (zg_A G) := by
  refine zx_met (by decide +kernel) (Nat.le_of_ble_eq_true rfl) (lv := [(0, .long a1)]) rfl ?_
  intro p e s m below meth c C hr w ls hl
  replace C : zx_C p s m _ meth c G RX11 cX11_norm 3 := C
  unfold zf_X11_norm at h
  refine lv_iconst (v := 0) C.1 C.2.1 dX11_norm_0 (by decide) ?_
  refine lv_istore_n (lv' := [(2, .int (0 : Int32)), (0, .long a1)]) C.1 C.2.1 dX11_norm_1 rfl hl (by decide) rfl (fun ls hl => ?_)
  obtain ⟨v2, hc, h⟩ := zc_b1_x h
  refine zk_X11_norm_2 C _ a1 v2 (fun H locs ls w hl => ?_) _ _ hc _ _ _ w (lv_sub hl [1, 0] rfl)
  clear hc
  refine lv_iload_n C.1 C.2.1 dX11_norm_18 rfl (lv_at hl 0 rfl) ?_
  exact zr_reti C w hr dX11_norm_19 (Option.some.inj h) rfl
set_option maxHeartbeats 4000000 in
set_option maxRecDepth 100000 in
theorem zk_X11_correlates_95 {p : Program} {l : Launch} {e : Env} {s : State} {m : MethodId} {args : Array Value} {below : List Frame} {meth : Method} {c : Code} {G : zg_T} {Q : State → Prop} (C : zx_C p s m args meth c G RX11 cX11_correlates 8) (S : zs_T) (f3 : Int32) (f4 : Int32) (o5 : Int64) (kont : ∀ (H : Heap) (locs : List Loc) (ls : Array Slot), zg_W G S s H locs → lv_has ls 8 [(0, .ref (zg_q G 40)), (3, .int f3), (4, .int f4), (5, .long o5)] → W p l e zr_m_X11_correlates s m args below meth c H locs 0 0 Q (F0 m 132 ls [])) : ∀ (n : Nat) (x5 : Int64) (x7 : Int32), zl_2 (zb_X11_correlates_95 S f4) n x5 x7 = some o5 → ∀ (H : Heap) (locs : List Loc) (ls : Array Slot), zg_W G S s H locs → lv_has ls 8 [(0, .ref (zg_q G 40)), (3, .int f3), (4, .int f4), (5, .long x5), (7, .int x7)] → W p l e zr_m_X11_correlates s m args below meth c H locs 0 0 Q (F0 m 95 ls []) := by
  intro n
  induction n with
  | zero => intro x5 x7 h; cases h
  | succ n ih =>
    intro x5 x7 h H locs ls w hl
    replace h : zb_X11_correlates_95 S f4 (zl_2 (zb_X11_correlates_95 S f4) n) x5 x7 = some o5 := h
    generalize zl_2 (zb_X11_correlates_95 S f4) n = rec at ih h
    unfold zb_X11_correlates_95 at h
    refine lv_iload C.1 C.2.1 dX11_correlates_95 (lv_at hl 4 rfl) ?_
    refine lv_sipush (v := 160) C.1 C.2.1 dX11_correlates_97 (by decide) ?_
    refine zr_ic_ge (tgt := 132) C dX11_correlates_100 (by decide) h (fun h => ?_) (fun h => ?_)
    · cases h
      exact kont _ _ _ w (lv_sub hl [0, 1, 2, 3] rfl)
    · refine lv_lload C.1 C.2.1 dX11_correlates_103 (lv_at hl 3 rfl) ?_
      refine lv_aload_n C.1 C.2.1 dX11_correlates_105 rfl (lv_at hl 0 rfl) ?_
      refine zr_get C w 40 zm_w_X11 (zw_g40 G _) rfl 18 (by decide) zm_f_X11_39 rfl dX11_correlates_106 ?_
      refine lv_iload C.1 C.2.1 dX11_correlates_109 (lv_at hl 4 rfl) ?_
      refine zr_lald C w 49 (zw_g49 G _) dX11_correlates_111 h (fun h => ?_)
      refine lv_aload_n C.1 C.2.1 dX11_correlates_112 rfl (lv_at hl 0 rfl) ?_
      refine zr_get C w 40 zm_w_X11 (zw_g40 G _) rfl 18 (by decide) zm_f_X11_39 rfl dX11_correlates_113 ?_
      refine lv_iload C.1 C.2.1 dX11_correlates_116 (lv_at hl 4 rfl) ?_
      refine lv_iload C.1 C.2.1 dX11_correlates_118 (lv_at hl 2 rfl) ?_
      refine lv_isub C.1 C.2.1 dX11_correlates_120 ?_
      refine zr_lald C w 49 (zw_g49 G _) dX11_correlates_121 h (fun h => ?_)
      refine lv_lmul C.1 C.2.1 dX11_correlates_122 ?_
      refine lv_ladd C.1 C.2.1 dX11_correlates_123 ?_
      refine zr_ltl h (fun v3 h => ?_)
      refine lv_lstore (lv' := [(5, .long v3), (0, .ref (zg_q G 40)), (3, .int f3), (4, .int f4), (7, .int x7)]) C.1 C.2.1 dX11_correlates_124 hl (by decide) rfl (fun ls hl => ?_)
      obtain ⟨v4, e_, h⟩ := zc_lt_x h
      refine lv_iinc (v := v4) (lv' := [(7, .int v4), (5, .long v3), (0, .ref (zg_q G 40)), (3, .int f3), (4, .int f4)]) C.1 C.2.1 dX11_correlates_126 hl (k := 4) rfl (by subst e_; rfl) (by decide) rfl (fun ls hl => ?_)
      clear e_
      refine lv_goto (tgt := 95) C.1 C.2.1 dX11_correlates_129 (by decide) ?_
      exact ih _ _ h _ _ _ w (lv_sub hl [2, 3, 4, 1, 0] rfl)
set_option maxHeartbeats 4000000 in
set_option maxRecDepth 100000 in
theorem zk_X11_correlates_81 {p : Program} {l : Launch} {e : Env} {s : State} {m : MethodId} {args : Array Value} {below : List Frame} {meth : Method} {c : Code} {G : zg_T} {Q : State → Prop} (C : zx_C p s m args meth c G RX11 cX11_correlates 8) (f3 : Int32) (oS : zs_T) (kont : ∀ (H : Heap) (locs : List Loc) (ls : Array Slot), zg_W G oS s H locs → lv_has ls 8 [(0, .ref (zg_q G 40)), (3, .int f3)] → W p l e zr_m_X11_correlates s m args below meth c H locs 0 0 Q (F0 m 151 ls [])) : ∀ (n : Nat) (S : zs_T) (x4 : Int32), zl_2 (zb_X11_correlates_81) n S x4 = some oS → ∀ (H : Heap) (locs : List Loc) (ls : Array Slot), zg_W G S s H locs → lv_has ls 8 [(0, .ref (zg_q G 40)), (3, .int f3), (4, .int x4)] → W p l e zr_m_X11_correlates s m args below meth c H locs 0 0 Q (F0 m 81 ls []) := by
  intro n
  induction n with
  | zero => intro S x4 h; cases h
  | succ n ih =>
    intro S x4 h H locs ls w hl
    replace h : zb_X11_correlates_81 (zl_2 (zb_X11_correlates_81) n) S x4 = some oS := h
    generalize zl_2 (zb_X11_correlates_81) n = rec at ih h
    unfold zb_X11_correlates_81 at h
    refine lv_iload C.1 C.2.1 dX11_correlates_81 (lv_at hl 2 rfl) ?_
    refine lv_bipush (v := 9) C.1 C.2.1 dX11_correlates_83 (by decide) ?_
    refine zr_ic_ge (tgt := 151) C dX11_correlates_85 (by decide) h (fun h => ?_) (fun h => ?_)
    · cases h
      exact kont _ _ _ w (lv_sub hl [0, 1] rfl)
    · refine lv_lconst (v := 0) C.1 C.2.1 dX11_correlates_88 (by decide) ?_
      refine lv_lstore (lv' := [(5, .long (0 : Int64)), (0, .ref (zg_q G 40)), (3, .int f3), (4, .int x4)]) C.1 C.2.1 dX11_correlates_89 hl (by decide) rfl (fun ls hl => ?_)
      refine lv_iload C.1 C.2.1 dX11_correlates_91 (lv_at hl 3 rfl) ?_
      refine lv_istore (lv' := [(7, .int x4), (5, .long (0 : Int64)), (0, .ref (zg_q G 40)), (3, .int f3), (4, .int x4)]) C.1 C.2.1 dX11_correlates_93 hl (by decide) rfl (fun ls hl => ?_)
      obtain ⟨v5, hc, h⟩ := zc_b1_x h
      refine zk_X11_correlates_95 C _ f3 x4 v5 (fun H locs ls w hl => ?_) _ _ _ hc _ _ _ w (lv_sub hl [2, 3, 4, 1, 0] rfl)
      clear hc
      refine lv_aload_n C.1 C.2.1 dX11_correlates_132 rfl (lv_at hl 0 rfl) ?_
      refine zr_get C w 40 zm_w_X11 (zw_g40 G _) rfl 22 (by decide) zm_f_X11_51 rfl dX11_correlates_133 ?_
      refine lv_iload C.1 C.2.1 dX11_correlates_136 (lv_at hl 2 rfl) ?_
      refine lv_ldc2 (v := 2) C.1 C.2.1 C.2.2.2.1 (C.2.2.2.2.1 _ zm_k_X11_135) dX11_correlates_138 ?_
      refine lv_lload C.1 C.2.1 dX11_correlates_141 (lv_at hl 3 rfl) ?_
      refine lv_lmul C.1 C.2.1 dX11_correlates_143 ?_
      refine zr_last C w 53 (zw_g53 G _) (zw_s53 G _) dX11_correlates_144 h (fun S6 H locs w h => ?_)
      obtain ⟨v7, e_, h⟩ := zc_lt_x h
      refine lv_iinc (v := v7) (lv' := [(4, .int v7), (0, .ref (zg_q G 40)), (3, .int f3), (5, .long v5)]) C.1 C.2.1 dX11_correlates_145 hl (k := 2) rfl (by subst e_; rfl) (by decide) rfl (fun ls hl => ?_)
      clear e_
      refine lv_goto (tgt := 81) C.1 C.2.1 dX11_correlates_148 (by decide) ?_
      exact ih _ _ h _ _ _ w (lv_sub hl [1, 2, 0] rfl)
set_option maxHeartbeats 4000000 in
set_option maxRecDepth 100000 in
theorem zk_X11_correlates_154 {p : Program} {l : Launch} {e : Env} {s : State} {m : MethodId} {args : Array Value} {below : List Frame} {meth : Method} {c : Code} {G : zg_T} {Q : State → Prop} (C : zx_C p s m args meth c G RX11 cX11_correlates 8) (f3 : Int32) (oS : zs_T) (kont : ∀ (H : Heap) (locs : List Loc) (ls : Array Slot), zg_W G oS s H locs → lv_has ls 8 [] → W p l e zr_m_X11_correlates s m args below meth c H locs 0 0 Q (F0 m 191 ls [])) : ∀ (n : Nat) (S : zs_T) (x4 : Int32), zl_2 (zb_X11_correlates_154 f3) n S x4 = some oS → ∀ (H : Heap) (locs : List Loc) (ls : Array Slot), zg_W G S s H locs → lv_has ls 8 [(0, .ref (zg_q G 40)), (3, .int f3), (4, .int x4)] → W p l e zr_m_X11_correlates s m args below meth c H locs 0 0 Q (F0 m 154 ls []) := by
  intro n
  induction n with
  | zero => intro S x4 h; cases h
  | succ n ih =>
    intro S x4 h H locs ls w hl
    replace h : zb_X11_correlates_154 f3 (zl_2 (zb_X11_correlates_154 f3) n) S x4 = some oS := h
    generalize zl_2 (zb_X11_correlates_154 f3) n = rec at ih h
    unfold zb_X11_correlates_154 at h
    refine lv_iload C.1 C.2.1 dX11_correlates_154 (lv_at hl 2 rfl) ?_
    refine lv_sipush (v := 160) C.1 C.2.1 dX11_correlates_156 (by decide) ?_
    refine zr_ic_ge (tgt := 191) C dX11_correlates_159 (by decide) h (fun h => ?_) (fun h => ?_)
    · cases h
      exact kont _ _ _ w (lv_sub hl [] rfl)
    · refine lv_iload_n C.1 C.2.1 dX11_correlates_162 rfl (lv_at hl 1 rfl) ?_
      refine zr_if_le (tgt := 191) C dX11_correlates_163 (by decide) h (fun h => ?_) (fun h => ?_)
      · cases h
        exact kont _ _ _ w (lv_sub hl [] rfl)
      · refine lv_aload_n C.1 C.2.1 dX11_correlates_166 rfl (lv_at hl 0 rfl) ?_
        refine zr_get C w 40 zm_w_X11 (zw_g40 G _) rfl 18 (by decide) zm_f_X11_39 rfl dX11_correlates_167 ?_
        refine lv_iload C.1 C.2.1 dX11_correlates_170 (lv_at hl 2 rfl) ?_
        refine lv_aload_n C.1 C.2.1 dX11_correlates_172 rfl (lv_at hl 0 rfl) ?_
        refine zr_get C w 40 zm_w_X11 (zw_g40 G _) rfl 18 (by decide) zm_f_X11_39 rfl dX11_correlates_173 ?_
        refine lv_iload C.1 C.2.1 dX11_correlates_176 (lv_at hl 2 rfl) ?_
        refine zr_lald C w 49 (zw_g49 G _) dX11_correlates_178 h (fun h => ?_)
        refine lv_iload_n C.1 C.2.1 dX11_correlates_179 rfl (lv_at hl 1 rfl) ?_
        refine lv_lshl C.1 C.2.1 dX11_correlates_180 rfl ?_
        refine zr_callSl C w (As := [.long ((S.2 49 (Int32.toNatClampNeg x4)) <<< (Int32.toInt64 f3 &&& 63))]) (zm_X11_cut l G _ _ _ rfl) zm_c_X11_cut zm_l_X11_82 zm_s_X11_cut zm_0_X11 zm_d_X11_cut ⟨rfl, rfl⟩ ⟨Nat.le_of_ble_eq_true rfl, Nat.le_of_ble_eq_true rfl⟩ hl.1 rfl rfl (Nat.le_of_ble_eq_true rfl) dX11_correlates_181 ⟨Nat.le_of_ble_eq_true rfl, Nat.le_of_ble_eq_true rfl⟩ (fun H locs w => ?_)
        refine zr_ltl h (fun v9 h => ?_)
        refine zr_last C w 49 (zw_g49 G _) (zw_s49 G _) dX11_correlates_184 h (fun S10 H locs w h => ?_)
        obtain ⟨v11, e_, h⟩ := zc_lt_x h
        refine lv_iinc (v := v11) (lv' := [(4, .int v11), (0, .ref (zg_q G 40)), (3, .int f3)]) C.1 C.2.1 dX11_correlates_185 hl (k := 2) rfl (by subst e_; rfl) (by decide) rfl (fun ls hl => ?_)
        clear e_
        refine lv_goto (tgt := 154) C.1 C.2.1 dX11_correlates_188 (by decide) ?_
        exact ih _ _ h _ _ _ w (lv_sub hl [1, 2, 0] rfl)
set_option maxHeartbeats 4000000 in
set_option maxRecDepth 100000 in
theorem zq_X11_correlates_78 {p : Program} {l : Launch} {e : Env} {s : State} {m : MethodId} {args : Array Value} {below : List Frame} {meth : Method} {c : Code} {G : zg_T} (hr : meth.sig.returnType = none) (C : zx_C p s m args meth c G RX11 cX11_correlates 8) (S1 : zs_T) (S : zs_T) (y3 : Int32) (h : zj_X11_correlates_78 S y3 = some S1) (H : Heap) (locs : List Loc) (ls : Array Slot) (w : zg_W G S s H locs) (hl : lv_has ls 8 [(0, .ref (zg_q G 40)), (3, .int y3)]) : W p l e zr_m_X11_correlates s m args below meth c H locs 0 0 (MQ below (zg_Q G none S1) args s 0 0 (zg_A G)) (F0 m 78 ls []) := by
  unfold zj_X11_correlates_78 at h
  refine lv_iconst (v := 0) C.1 C.2.1 dX11_correlates_78 (by decide) ?_
  refine lv_istore (lv' := [(4, .int (0 : Int32)), (0, .ref (zg_q G 40)), (3, .int y3)]) C.1 C.2.1 dX11_correlates_79 hl (by decide) rfl (fun ls hl => ?_)
  obtain ⟨S8, hc, h⟩ := zc_b1_x h
  refine zk_X11_correlates_81 C y3 S8 (fun H locs ls w hl => ?_) _ _ _ hc _ _ _ w (lv_sub hl [1, 2, 0] rfl)
  clear hc
  refine lv_iconst (v := 0) C.1 C.2.1 dX11_correlates_151 (by decide) ?_
  refine lv_istore (lv' := [(4, .int (0 : Int32)), (0, .ref (zg_q G 40)), (3, .int y3)]) C.1 C.2.1 dX11_correlates_152 hl (by decide) rfl (fun ls hl => ?_)
  obtain ⟨S12, hc, h⟩ := zc_b1_x h
  refine zk_X11_correlates_154 C y3 S12 (fun H locs ls w hl => ?_) _ _ _ hc _ _ _ w (lv_sub hl [1, 2, 0] rfl)
  clear hc
  exact zr_retv C w hr dX11_correlates_191 (Option.some.inj h)
set_option maxHeartbeats 4000000 in
set_option maxRecDepth 100000 in
theorem zk_X11_correlates_40 {p : Program} {l : Launch} {e : Env} {s : State} {m : MethodId} {args : Array Value} {below : List Frame} {meth : Method} {c : Code} {G : zg_T} {Q : State → Prop} (C : zx_C p s m args meth c G RX11 cX11_correlates 8) (f3 : Int32) (oS : zs_T) (kont : ∀ (H : Heap) (locs : List Loc) (ls : Array Slot), zg_W G oS s H locs → lv_has ls 8 [(0, .ref (zg_q G 40)), (3, .int f3)] → W p l e zr_m_X11_correlates s m args below meth c H locs 0 0 Q (F0 m 78 ls [])) : ∀ (n : Nat) (S : zs_T) (x4 : Int32), zl_2 (zb_X11_correlates_40 f3) n S x4 = some oS → ∀ (H : Heap) (locs : List Loc) (ls : Array Slot), zg_W G S s H locs → lv_has ls 8 [(0, .ref (zg_q G 40)), (3, .int f3), (4, .int x4)] → W p l e zr_m_X11_correlates s m args below meth c H locs 0 0 Q (F0 m 40 ls []) := by
  intro n
  induction n with
  | zero => intro S x4 h; cases h
  | succ n ih =>
    intro S x4 h H locs ls w hl
    replace h : zb_X11_correlates_40 f3 (zl_2 (zb_X11_correlates_40 f3) n) S x4 = some oS := h
    generalize zl_2 (zb_X11_correlates_40 f3) n = rec at ih h
    unfold zb_X11_correlates_40 at h
    refine lv_iload C.1 C.2.1 dX11_correlates_40 (lv_at hl 2 rfl) ?_
    refine lv_sipush (v := 160) C.1 C.2.1 dX11_correlates_42 (by decide) ?_
    refine zr_ic_ge (tgt := 78) C dX11_correlates_45 (by decide) h (fun h => ?_) (fun h => ?_)
    · cases h
      exact kont _ _ _ w (lv_sub hl [0, 1] rfl)
    · refine lv_aload_n C.1 C.2.1 dX11_correlates_48 rfl (lv_at hl 0 rfl) ?_
      refine zr_get C w 40 zm_w_X11 (zw_g40 G _) rfl 18 (by decide) zm_f_X11_39 rfl dX11_correlates_49 ?_
      refine lv_iload C.1 C.2.1 dX11_correlates_52 (lv_at hl 2 rfl) ?_
      refine lv_aload_n C.1 C.2.1 dX11_correlates_54 rfl (lv_at hl 0 rfl) ?_
      refine zr_get C w 40 zm_w_X11 (zw_g40 G _) rfl 18 (by decide) zm_f_X11_39 rfl dX11_correlates_55 ?_
      refine lv_iload C.1 C.2.1 dX11_correlates_58 (lv_at hl 2 rfl) ?_
      refine zr_lald C w 49 (zw_g49 G _) dX11_correlates_60 h (fun h => ?_)
      refine lv_ldc2 (v := 16384) C.1 C.2.1 C.2.2.2.1 (C.2.2.2.2.1 _ zm_k_X11_80) dX11_correlates_61 ?_
      refine lv_iload_n C.1 C.2.1 dX11_correlates_64 rfl (lv_at hl 1 rfl) ?_
      refine lv_iconst (v := 1) C.1 C.2.1 dX11_correlates_65 (by decide) ?_
      refine lv_isub C.1 C.2.1 dX11_correlates_66 ?_
      refine lv_lshr C.1 C.2.1 dX11_correlates_67 rfl ?_
      refine zr_callSl C w (As := [.long (S.2 49 (Int32.toNatClampNeg x4)), .long ((16384 : Int64) >>> (Int32.toInt64 (f3 - (1 : Int32)) &&& 63))]) (zm_X11_rounded l G _ _ _ _ rfl) zm_c_X11_rounded zm_l_X11_112 zm_s_X11_rounded zm_0_X11 zm_d_X11_rounded ⟨rfl, rfl⟩ ⟨Nat.le_of_ble_eq_true rfl, Nat.le_of_ble_eq_true rfl⟩ hl.1 rfl rfl (Nat.le_of_ble_eq_true rfl) dX11_correlates_68 ⟨Nat.le_of_ble_eq_true rfl, Nat.le_of_ble_eq_true rfl⟩ (fun H locs w => ?_)
      refine zr_ltl h (fun v13 h => ?_)
      refine zr_last C w 49 (zw_g49 G _) (zw_s49 G _) dX11_correlates_71 h (fun S14 H locs w h => ?_)
      obtain ⟨v15, e_, h⟩ := zc_lt_x h
      refine lv_iinc (v := v15) (lv' := [(4, .int v15), (0, .ref (zg_q G 40)), (3, .int f3)]) C.1 C.2.1 dX11_correlates_72 hl (k := 2) rfl (by subst e_; rfl) (by decide) rfl (fun ls hl => ?_)
      clear e_
      refine lv_goto (tgt := 40) C.1 C.2.1 dX11_correlates_75 (by decide) ?_
      exact ih _ _ h _ _ _ w (lv_sub hl [1, 2, 0] rfl)
set_option maxHeartbeats 4000000 in
set_option maxRecDepth 100000 in
theorem zq_X11_correlates_32 {p : Program} {l : Launch} {e : Env} {s : State} {m : MethodId} {args : Array Value} {below : List Frame} {meth : Method} {c : Code} {G : zg_T} (hr : meth.sig.returnType = none) (C : zx_C p s m args meth c G RX11 cX11_correlates 8) (S1 : zs_T) (S : zs_T) (z0 : Int32) (h : zj_X11_correlates_32 S z0 = some S1) (H : Heap) (locs : List Loc) (ls : Array Slot) (w : zg_W G S s H locs) (hl : lv_has ls 8 [(0, .ref (zg_q G 40))]) : W p l e zr_m_X11_correlates s m args below meth c H locs 0 0 (MQ below (zg_Q G none S1) args s 0 0 (zg_A G)) (F0 m 32 ls [.int z0]) := by
  unfold zj_X11_correlates_32 at h
  refine lv_istore_n (lv' := [(3, .int z0), (0, .ref (zg_q G 40))]) C.1 C.2.1 dX11_correlates_32 rfl hl (by decide) rfl (fun ls hl => ?_)
  refine lv_iload_n C.1 C.2.1 dX11_correlates_33 rfl (lv_at hl 0 rfl) ?_
  refine zr_if_le (tgt := 78) C dX11_correlates_34 (by decide) h (fun h => ?_) (fun h => ?_)
  · exact zq_X11_correlates_78 hr C _ _ _ h _ _ _ w (lv_sub hl [1, 0] rfl)
  · refine lv_iconst (v := 0) C.1 C.2.1 dX11_correlates_37 (by decide) ?_
    refine lv_istore (lv' := [(4, .int (0 : Int32)), (3, .int z0), (0, .ref (zg_q G 40))]) C.1 C.2.1 dX11_correlates_38 hl (by decide) rfl (fun ls hl => ?_)
    obtain ⟨S16, hc, h⟩ := zc_b1_x h
    refine zk_X11_correlates_40 C z0 S16 (fun H locs ls w hl => ?_) _ _ _ hc _ _ _ w (lv_sub hl [2, 1, 0] rfl)
    clear hc
    exact zq_X11_correlates_78 hr C _ _ _ h _ _ _ w (lv_sub hl [0, 1] rfl)
set_option maxHeartbeats 4000000 in
set_option maxRecDepth 100000 in
theorem zm_X11_correlates (l : Launch) (G : zg_T) (S : zs_T) (S1 : zs_T) (h : zf_X11_correlates S = some S1) : Met l yX11_correlates (Cond.code yX11_correlates cX11_correlates 8 none :: zt_G) zr_m_X11_correlates (va_Pc [.ref (zg_q G 40)] (zg_P G S)) (zg_Q G none S1) 0 0 (zg_A G) := by
  refine zx_met (by decide +kernel) (Nat.le_of_ble_eq_true rfl) (lv := [(0, .ref (zg_q G 40))]) rfl ?_
  intro p e s m below meth c C hr w ls hl
  replace C : zx_C p s m _ meth c G RX11 cX11_correlates 8 := C
  unfold zf_X11_correlates at h
  refine lv_aload_n C.1 C.2.1 dX11_correlates_0 rfl (lv_at hl 0 rfl) ?_
  refine zr_get C w 40 zm_w_X11 (zw_g40 G _) rfl 18 (by decide) zm_f_X11_39 rfl dX11_correlates_1 ?_
  refine lv_iconst (v := 0) C.1 C.2.1 dX11_correlates_4 (by decide) ?_
  refine lv_sipush (v := 160) C.1 C.2.1 dX11_correlates_5 (by decide) ?_
  obtain ⟨v1, hc, h⟩ := zc_b1_x h
  refine zr_callSl C w (As := [.ref (zg_q G 49), .int (0 : Int32), .int (160 : Int32)]) (zm_X11_greatest_49 l G _ _ _ _ hc) zm_c_X11_greatest zm_l_X11_127 zm_s_X11_greatest zm_0_X11 zm_d_X11_greatest ⟨rfl, rfl⟩ ⟨Nat.le_of_ble_eq_true rfl, Nat.le_of_ble_eq_true rfl⟩ hl.1 rfl rfl (Nat.le_of_ble_eq_true rfl) dX11_correlates_8 ⟨Nat.le_of_ble_eq_true rfl, Nat.le_of_ble_eq_true rfl⟩ (fun H locs w => ?_)
  clear hc
  refine lv_lstore_n (lv' := [(1, .long v1), (0, .ref (zg_q G 40))]) C.1 C.2.1 dX11_correlates_11 rfl hl (by decide) rfl (fun ls hl => ?_)
  refine lv_lload_n C.1 C.2.1 dX11_correlates_12 rfl (lv_at hl 0 rfl) ?_
  refine lv_lconst (v := 0) C.1 C.2.1 dX11_correlates_13 (by decide) ?_
  refine zr_lc_ne (tgt := 22) C dX11_correlates_14 dX11_correlates_15 (by decide) h (fun h => ?_) (fun h => ?_)
  · refine lv_iconst (v := 4) C.1 C.2.1 dX11_correlates_22 (by decide) ?_
    refine lv_lload_n C.1 C.2.1 dX11_correlates_23 rfl (lv_at hl 0 rfl) ?_
    refine lv_ldc2 (v := 65536) C.1 C.2.1 C.2.2.2.1 (C.2.2.2.2.1 _ zm_k_X11_97) dX11_correlates_24 ?_
    refine lv_lmul C.1 C.2.1 dX11_correlates_27 ?_
    obtain ⟨v2, hc, h⟩ := zc_b1_x h
    refine zr_callSi C w (As := [.long (v1 * (65536 : Int64))]) (zm_X11_norm l G _ _ _ hc) zm_c_X11_norm zm_l_X11_131 zm_s_X11_norm zm_0_X11 zm_d_X11_norm ⟨rfl, rfl⟩ ⟨Nat.le_of_ble_eq_true rfl, Nat.le_of_ble_eq_true rfl⟩ hl.1 rfl rfl (Nat.le_of_ble_eq_true rfl) dX11_correlates_28 ⟨Nat.le_of_ble_eq_true rfl, Nat.le_of_ble_eq_true rfl⟩ (fun H locs w => ?_)
    clear hc
    refine lv_isub C.1 C.2.1 dX11_correlates_31 ?_
    exact zq_X11_correlates_32 hr C _ _ _ h _ _ _ w (lv_sub hl [1] rfl)
  · refine lv_iconst (v := 0) C.1 C.2.1 dX11_correlates_18 (by decide) ?_
    refine lv_goto (tgt := 32) C.1 C.2.1 dX11_correlates_19 (by decide) ?_
    exact zq_X11_correlates_32 hr C _ _ _ h _ _ _ w (lv_sub hl [1] rfl)
