set_option maxHeartbeats 4000000 in
set_option maxRecDepth 100000 in
theorem zk_X10_pack_34 {p : Program} {l : Launch} {e : Env} {s : State} {m : MethodId} {args : Array Value} {below : List Frame} {meth : Method} {c : Code} {G : zg_T} {Q : State → Prop} (C : zx_C p s m args meth c G RX10 cX10_pack 5) (f2 : Int32) (oS : zs_T) (o1 : Int32) (kont : ∀ (H : Heap) (locs : List Loc) (ls : Array Slot), zg_W G oS s H locs → lv_has ls 5 [(0, .ref (zg_q G 0)), (1, .int o1), (2, .int f2)] → W p l e zr_m_X10_pack s m args below meth c H locs 0 0 Q (F0 m 80 ls [])) : ∀ (n : Nat) (S : zs_T) (x1 : Int32) (x3 : Int32), zl_3 (zb_X10_pack_34 f2) n S x1 x3 = some (oS, o1) → ∀ (H : Heap) (locs : List Loc) (ls : Array Slot), zg_W G S s H locs → lv_has ls 5 [(0, .ref (zg_q G 0)), (1, .int x1), (2, .int f2), (3, .int x3)] → W p l e zr_m_X10_pack s m args below meth c H locs 0 0 Q (F0 m 34 ls []) := by
  intro n
  induction n with
  | zero => intro S x1 x3 h; cases h
  | succ n ih =>
    intro S x1 x3 h H locs ls w hl
    replace h : zb_X10_pack_34 f2 (zl_3 (zb_X10_pack_34 f2) n) S x1 x3 = some (oS, o1) := h
    generalize zl_3 (zb_X10_pack_34 f2) n = rec at ih h
    unfold zb_X10_pack_34 at h
    refine lv_iload_n C.1 C.2.1 dX10_pack_34 rfl (lv_at hl 3 rfl) ?_
    refine zr_if_lt (tgt := 80) C dX10_pack_35 (by decide) h (fun h => ?_) (fun h => ?_)
    · cases h
      exact kont _ _ _ w (lv_sub hl [0, 1, 2] rfl)
    · refine lv_aload_n C.1 C.2.1 dX10_pack_38 rfl (lv_at hl 0 rfl) ?_
      refine zr_get C w 0 zm_w_X10 (zw_g0 G _) rfl 2 (by decide) zm_f_X10_16 rfl dX10_pack_39 ?_
      refine lv_iload_n C.1 C.2.1 dX10_pack_42 rfl (lv_at hl 2 rfl) ?_
      refine zr_iald C w 3 (zw_g3 G _) dX10_pack_43 h (fun h => ?_)
      refine lv_iload_n C.1 C.2.1 dX10_pack_44 rfl (lv_at hl 3 rfl) ?_
      refine lv_ishr C.1 C.2.1 dX10_pack_45 ?_
      refine lv_iconst (v := 1) C.1 C.2.1 dX10_pack_46 (by decide) ?_
      refine lv_iand C.1 C.2.1 dX10_pack_47 ?_
      refine zr_lti h (fun v5 h => ?_)
      refine lv_istore (lv' := [(4, .int v5), (0, .ref (zg_q G 0)), (1, .int x1), (2, .int f2), (3, .int x3)]) C.1 C.2.1 dX10_pack_48 hl (by decide) rfl (fun ls hl => ?_)
      refine lv_aload_n C.1 C.2.1 dX10_pack_50 rfl (lv_at hl 1 rfl) ?_
      refine zr_get C w 0 zm_w_X10 (zw_g0 G _) rfl 1 (by decide) zm_f_X10_13 rfl dX10_pack_51 ?_
      refine lv_iload_n C.1 C.2.1 dX10_pack_54 rfl (lv_at hl 2 rfl) ?_
      refine lv_iconst (v := 3) C.1 C.2.1 dX10_pack_55 (by decide) ?_
      refine lv_ishr C.1 C.2.1 dX10_pack_56 ?_
      refine zr_lti h (fun v6 h => ?_)
      refine lv_dup2_11 C.1 C.2.1 dX10_pack_57 rfl rfl ?_
      refine zr_iald C w 2 (zw_g2 G _) dX10_pack_58 h (fun h => ?_)
      refine lv_iload C.1 C.2.1 dX10_pack_59 (lv_at hl 0 rfl) ?_
      refine lv_bipush (v := 7) C.1 C.2.1 dX10_pack_61 (by decide) ?_
      refine lv_iload_n C.1 C.2.1 dX10_pack_63 rfl (lv_at hl 2 rfl) ?_
      refine lv_bipush (v := 7) C.1 C.2.1 dX10_pack_64 (by decide) ?_
      refine lv_iand C.1 C.2.1 dX10_pack_66 ?_
      refine lv_isub C.1 C.2.1 dX10_pack_67 ?_
      refine lv_ishl C.1 C.2.1 dX10_pack_68 ?_
      refine lv_ior C.1 C.2.1 dX10_pack_69 ?_
      refine zr_iast C w 2 (zw_g2 G _) (zw_s2 G _) dX10_pack_70 h (fun S7 H locs w h => ?_)
      obtain ⟨v8, e_, h⟩ := zc_lt_x h
      refine lv_iinc (v := v8) (lv' := [(1, .int v8), (4, .int v5), (0, .ref (zg_q G 0)), (2, .int f2), (3, .int x3)]) C.1 C.2.1 dX10_pack_71 hl (k := 2) rfl (by subst e_; rfl) (by decide) rfl (fun ls hl => ?_)
      clear e_
      obtain ⟨v9, e_, h⟩ := zc_lt_x h
      refine lv_iinc (v := v9) (lv' := [(3, .int v9), (1, .int v8), (4, .int v5), (0, .ref (zg_q G 0)), (2, .int f2)]) C.1 C.2.1 dX10_pack_74 hl (k := 4) rfl (by subst e_; rfl) (by decide) rfl (fun ls hl => ?_)
      clear e_
      refine lv_goto (tgt := 34) C.1 C.2.1 dX10_pack_77 (by decide) ?_
      exact ih _ _ _ h _ _ _ w (lv_sub hl [3, 1, 4, 0] rfl)
set_option maxHeartbeats 4000000 in
set_option maxRecDepth 100000 in
theorem zk_X10_pack_21 {p : Program} {l : Launch} {e : Env} {s : State} {m : MethodId} {args : Array Value} {below : List Frame} {meth : Method} {c : Code} {G : zg_T} {Q : State → Prop} (C : zx_C p s m args meth c G RX10 cX10_pack 5) (oS : zs_T) (kont : ∀ (H : Heap) (locs : List Loc) (ls : Array Slot), zg_W G oS s H locs → lv_has ls 5 [] → W p l e zr_m_X10_pack s m args below meth c H locs 0 0 Q (F0 m 86 ls [])) : ∀ (n : Nat) (S : zs_T) (x1 : Int32) (x2 : Int32), zl_3 (zb_X10_pack_21) n S x1 x2 = some oS → ∀ (H : Heap) (locs : List Loc) (ls : Array Slot), zg_W G S s H locs → lv_has ls 5 [(0, .ref (zg_q G 0)), (1, .int x1), (2, .int x2)] → W p l e zr_m_X10_pack s m args below meth c H locs 0 0 Q (F0 m 21 ls []) := by
  intro n
  induction n with
  | zero => intro S x1 x2 h; cases h
  | succ n ih =>
    intro S x1 x2 h H locs ls w hl
    replace h : zb_X10_pack_21 (zl_3 (zb_X10_pack_21) n) S x1 x2 = some oS := h
    generalize zl_3 (zb_X10_pack_21) n = rec at ih h
    unfold zb_X10_pack_21 at h
    refine lv_iload_n C.1 C.2.1 dX10_pack_21 rfl (lv_at hl 2 rfl) ?_
    refine lv_bipush (v := 76) C.1 C.2.1 dX10_pack_22 (by decide) ?_
    refine zr_ic_ge (tgt := 86) C dX10_pack_24 (by decide) h (fun h => ?_) (fun h => ?_)
    · cases h
      exact kont _ _ _ w (lv_sub hl [] rfl)
    · refine lv_iload_n C.1 C.2.1 dX10_pack_27 rfl (lv_at hl 2 rfl) ?_
      obtain ⟨v3, hc, h⟩ := zc_b1_x h
      refine zr_callSi C w (As := [.int x2]) (zm_X10_bitsOf l G _ _ _ hc) zm_c_X10_bitsOf zm_l_X10_153 zm_s_X10_bitsOf zm_0_X10 zm_d_X10_bitsOf ⟨rfl, rfl⟩ ⟨Nat.le_of_ble_eq_true rfl, Nat.le_of_ble_eq_true rfl⟩ hl.1 rfl rfl (Nat.le_of_ble_eq_true rfl) dX10_pack_28 ⟨Nat.le_of_ble_eq_true rfl, Nat.le_of_ble_eq_true rfl⟩ (fun H locs w => ?_)
      clear hc
      refine lv_iconst (v := 1) C.1 C.2.1 dX10_pack_31 (by decide) ?_
      refine lv_isub C.1 C.2.1 dX10_pack_32 ?_
      refine zr_lti h (fun v4 h => ?_)
      refine lv_istore_n (lv' := [(3, .int v4), (0, .ref (zg_q G 0)), (1, .int x1), (2, .int x2)]) C.1 C.2.1 dX10_pack_33 rfl hl (by decide) rfl (fun ls hl => ?_)
      obtain ⟨S10, v11, hc, h⟩ := zc_b2_x h
      refine zk_X10_pack_34 C x2 S10 v11 (fun H locs ls w hl => ?_) _ _ _ _ hc _ _ _ w (lv_sub hl [1, 2, 3, 0] rfl)
      clear hc
      obtain ⟨v12, e_, h⟩ := zc_lt_x h
      refine lv_iinc (v := v12) (lv' := [(2, .int v12), (0, .ref (zg_q G 0)), (1, .int v11)]) C.1 C.2.1 dX10_pack_80 hl (k := 2) rfl (by subst e_; rfl) (by decide) rfl (fun ls hl => ?_)
      clear e_
      refine lv_goto (tgt := 21) C.1 C.2.1 dX10_pack_83 (by decide) ?_
      exact ih _ _ _ h _ _ _ w (lv_sub hl [1, 2, 0] rfl)
set_option maxHeartbeats 4000000 in
set_option maxRecDepth 100000 in
theorem zm_X10_pack (l : Launch) (G : zg_T) (S : zs_T) (S1 : zs_T) (h : zf_X10_pack S = some S1) : Met l yX10_pack (Cond.code yX10_pack cX10_pack 5 none :: zt_G) zr_m_X10_pack (va_Pc [.ref (zg_q G 0)] (zg_P G S)) (zg_Q G none S1) 0 0 (zg_A G) := by
  refine zx_met (by decide +kernel) (Nat.le_of_ble_eq_true rfl) (lv := [(0, .ref (zg_q G 0))]) rfl ?_
  intro p e s m below meth c C hr w ls hl
  replace C : zx_C p s m _ meth c G RX10 cX10_pack 5 := C
  unfold zf_X10_pack at h
  refine lv_aload_n C.1 C.2.1 dX10_pack_0 rfl (lv_at hl 0 rfl) ?_
  refine zr_get C w 0 zm_w_X10 (zw_g0 G _) rfl 1 (by decide) zm_f_X10_13 rfl dX10_pack_1 ?_
  refine lv_iconst (v := 0) C.1 C.2.1 dX10_pack_4 (by decide) ?_
  obtain ⟨S1, hc, h⟩ := zc_b1_x h
  refine zr_callSv C w (As := [.ref (zg_q G 2), .int (0 : Int32)]) (zm_J7_fill_53178_2 l G _ _ _ hc) zm_c_J7_fill_53178 zm_l_X10_92 zm_s_J7_fill_53178 zm_0_J7 zm_d_J7_fill_53178 ⟨rfl, rfl⟩ ⟨Nat.le_of_ble_eq_true rfl, Nat.le_of_ble_eq_true rfl⟩ hl.1 rfl rfl (Nat.le_of_ble_eq_true rfl) dX10_pack_5 ⟨Nat.le_of_ble_eq_true rfl, Nat.le_of_ble_eq_true rfl⟩ (fun H locs w => ?_)
  clear hc
  refine lv_aload_n C.1 C.2.1 dX10_pack_8 rfl (lv_at hl 0 rfl) ?_
  refine zr_get C w 0 zm_w_X10 (zw_g0 G _) rfl 1 (by decide) zm_f_X10_13 rfl dX10_pack_9 ?_
  refine lv_iconst (v := 0) C.1 C.2.1 dX10_pack_12 (by decide) ?_
  refine lv_sipush (v := 208) C.1 C.2.1 dX10_pack_13 (by decide) ?_
  refine zr_iast C w 2 (zw_g2 G _) (zw_s2 G _) dX10_pack_16 h (fun S2 H locs w h => ?_)
  refine lv_iconst (v := 4) C.1 C.2.1 dX10_pack_17 (by decide) ?_
  refine lv_istore_n (lv' := [(1, .int (4 : Int32)), (0, .ref (zg_q G 0))]) C.1 C.2.1 dX10_pack_18 rfl hl (by decide) rfl (fun ls hl => ?_)
  refine lv_iconst (v := 0) C.1 C.2.1 dX10_pack_19 (by decide) ?_
  refine lv_istore_n (lv' := [(2, .int (0 : Int32)), (1, .int (4 : Int32)), (0, .ref (zg_q G 0))]) C.1 C.2.1 dX10_pack_20 rfl hl (by decide) rfl (fun ls hl => ?_)
  obtain ⟨S13, hc, h⟩ := zc_b1_x h
  refine zk_X10_pack_21 C S13 (fun H locs ls w hl => ?_) _ _ _ _ hc _ _ _ w (lv_sub hl [2, 1, 0] rfl)
  clear hc
  exact zr_retv C w hr dX10_pack_86 (Option.some.inj h)
set_option maxHeartbeats 4000000 in
set_option maxRecDepth 100000 in
theorem zk_X10_unpack_20 {p : Program} {l : Launch} {e : Env} {s : State} {m : MethodId} {args : Array Value} {below : List Frame} {meth : Method} {c : Code} {G : zg_T} {Q : State → Prop} (C : zx_C p s m args meth c G RX10 cX10_unpack 6) (S : zs_T) (f2 : Int32) (o1 : Int32) (o3 : Int32) (kont : ∀ (H : Heap) (locs : List Loc) (ls : Array Slot), zg_W G S s H locs → lv_has ls 6 [(0, .ref (zg_q G 0)), (1, .int o1), (2, .int f2), (3, .int o3)] → W p l e zr_m_X10_unpack s m args below meth c H locs 0 0 Q (F0 m 61 ls [])) : ∀ (n : Nat) (x1 : Int32) (x3 : Int32) (x4 : Int32), zl_3 (zb_X10_unpack_20 S) n x1 x3 x4 = some (o1, o3) → ∀ (H : Heap) (locs : List Loc) (ls : Array Slot), zg_W G S s H locs → lv_has ls 6 [(0, .ref (zg_q G 0)), (1, .int x1), (2, .int f2), (3, .int x3), (4, .int x4)] → W p l e zr_m_X10_unpack s m args below meth c H locs 0 0 Q (F0 m 20 ls []) := by
  intro n
  induction n with
  | zero => intro x1 x3 x4 h; cases h
  | succ n ih =>
    intro x1 x3 x4 h H locs ls w hl
    replace h : zb_X10_unpack_20 S (zl_3 (zb_X10_unpack_20 S) n) x1 x3 x4 = some (o1, o3) := h
    generalize zl_3 (zb_X10_unpack_20 S) n = rec at ih h
    unfold zb_X10_unpack_20 at h
    refine lv_iload C.1 C.2.1 dX10_unpack_20 (lv_at hl 4 rfl) ?_
    refine zr_if_lt (tgt := 61) C dX10_unpack_22 (by decide) h (fun h => ?_) (fun h => ?_)
    · cases h
      exact kont _ _ _ w (lv_sub hl [0, 1, 2, 3] rfl)
    · refine lv_aload_n C.1 C.2.1 dX10_unpack_25 rfl (lv_at hl 0 rfl) ?_
      refine zr_get C w 0 zm_w_X10 (zw_g0 G _) rfl 1 (by decide) zm_f_X10_13 rfl dX10_unpack_26 ?_
      refine lv_iload_n C.1 C.2.1 dX10_unpack_29 rfl (lv_at hl 1 rfl) ?_
      refine lv_iconst (v := 3) C.1 C.2.1 dX10_unpack_30 (by decide) ?_
      refine lv_ishr C.1 C.2.1 dX10_unpack_31 ?_
      refine zr_iald C w 2 (zw_g2 G _) dX10_unpack_32 h (fun h => ?_)
      refine lv_bipush (v := 7) C.1 C.2.1 dX10_unpack_33 (by decide) ?_
      refine lv_iload_n C.1 C.2.1 dX10_unpack_35 rfl (lv_at hl 1 rfl) ?_
      refine lv_bipush (v := 7) C.1 C.2.1 dX10_unpack_36 (by decide) ?_
      refine lv_iand C.1 C.2.1 dX10_unpack_38 ?_
      refine lv_isub C.1 C.2.1 dX10_unpack_39 ?_
      refine lv_ishr C.1 C.2.1 dX10_unpack_40 ?_
      refine lv_iconst (v := 1) C.1 C.2.1 dX10_unpack_41 (by decide) ?_
      refine lv_iand C.1 C.2.1 dX10_unpack_42 ?_
      refine zr_lti h (fun v3 h => ?_)
      refine lv_istore (lv' := [(5, .int v3), (0, .ref (zg_q G 0)), (1, .int x1), (2, .int f2), (3, .int x3), (4, .int x4)]) C.1 C.2.1 dX10_unpack_43 hl (by decide) rfl (fun ls hl => ?_)
      refine lv_iconst (v := 2) C.1 C.2.1 dX10_unpack_45 (by decide) ?_
      refine lv_iload_n C.1 C.2.1 dX10_unpack_46 rfl (lv_at hl 4 rfl) ?_
      refine lv_imul C.1 C.2.1 dX10_unpack_47 ?_
      refine lv_iload C.1 C.2.1 dX10_unpack_48 (lv_at hl 0 rfl) ?_
      refine lv_iadd C.1 C.2.1 dX10_unpack_50 ?_
      refine zr_lti h (fun v4 h => ?_)
      refine lv_istore_n (lv' := [(3, .int v4), (5, .int v3), (0, .ref (zg_q G 0)), (1, .int x1), (2, .int f2), (4, .int x4)]) C.1 C.2.1 dX10_unpack_51 rfl hl (by decide) rfl (fun ls hl => ?_)
      obtain ⟨v5, e_, h⟩ := zc_lt_x h
      refine lv_iinc (v := v5) (lv' := [(1, .int v5), (3, .int v4), (5, .int v3), (0, .ref (zg_q G 0)), (2, .int f2), (4, .int x4)]) C.1 C.2.1 dX10_unpack_52 hl (k := 3) rfl (by subst e_; rfl) (by decide) rfl (fun ls hl => ?_)
      clear e_
      obtain ⟨v6, e_, h⟩ := zc_lt_x h
      refine lv_iinc (v := v6) (lv' := [(4, .int v6), (1, .int v5), (3, .int v4), (5, .int v3), (0, .ref (zg_q G 0)), (2, .int f2)]) C.1 C.2.1 dX10_unpack_55 hl (k := 5) rfl (by subst e_; rfl) (by decide) rfl (fun ls hl => ?_)
      clear e_
      refine lv_goto (tgt := 20) C.1 C.2.1 dX10_unpack_58 (by decide) ?_
      exact ih _ _ _ h _ _ _ w (lv_sub hl [4, 1, 5, 2, 0] rfl)
set_option maxHeartbeats 4000000 in
set_option maxRecDepth 100000 in
theorem zk_X10_unpack_4 {p : Program} {l : Launch} {e : Env} {s : State} {m : MethodId} {args : Array Value} {below : List Frame} {meth : Method} {c : Code} {G : zg_T} {Q : State → Prop} (C : zx_C p s m args meth c G RX10 cX10_unpack 6) (oS : zs_T) (kont : ∀ (H : Heap) (locs : List Loc) (ls : Array Slot), zg_W G oS s H locs → lv_has ls 6 [] → W p l e zr_m_X10_unpack s m args below meth c H locs 0 0 Q (F0 m 74 ls [])) : ∀ (n : Nat) (S : zs_T) (x1 : Int32) (x2 : Int32), zl_3 (zb_X10_unpack_4) n S x1 x2 = some oS → ∀ (H : Heap) (locs : List Loc) (ls : Array Slot), zg_W G S s H locs → lv_has ls 6 [(0, .ref (zg_q G 0)), (1, .int x1), (2, .int x2)] → W p l e zr_m_X10_unpack s m args below meth c H locs 0 0 Q (F0 m 4 ls []) := by
  intro n
  induction n with
  | zero => intro S x1 x2 h; cases h
  | succ n ih =>
    intro S x1 x2 h H locs ls w hl
    replace h : zb_X10_unpack_4 (zl_3 (zb_X10_unpack_4) n) S x1 x2 = some oS := h
    generalize zl_3 (zb_X10_unpack_4) n = rec at ih h
    unfold zb_X10_unpack_4 at h
    refine lv_iload_n C.1 C.2.1 dX10_unpack_4 rfl (lv_at hl 2 rfl) ?_
    refine lv_bipush (v := 76) C.1 C.2.1 dX10_unpack_5 (by decide) ?_
    refine zr_ic_ge (tgt := 74) C dX10_unpack_7 (by decide) h (fun h => ?_) (fun h => ?_)
    · cases h
      exact kont _ _ _ w (lv_sub hl [] rfl)
    · refine lv_iconst (v := 0) C.1 C.2.1 dX10_unpack_10 (by decide) ?_
      refine lv_istore_n (lv' := [(3, .int (0 : Int32)), (0, .ref (zg_q G 0)), (1, .int x1), (2, .int x2)]) C.1 C.2.1 dX10_unpack_11 rfl hl (by decide) rfl (fun ls hl => ?_)
      refine lv_iload_n C.1 C.2.1 dX10_unpack_12 rfl (lv_at hl 3 rfl) ?_
      obtain ⟨v1, hc, h⟩ := zc_b1_x h
      refine zr_callSi C w (As := [.int x2]) (zm_X10_bitsOf l G _ _ _ hc) zm_c_X10_bitsOf zm_l_X10_153 zm_s_X10_bitsOf zm_0_X10 zm_d_X10_bitsOf ⟨rfl, rfl⟩ ⟨Nat.le_of_ble_eq_true rfl, Nat.le_of_ble_eq_true rfl⟩ hl.1 rfl rfl (Nat.le_of_ble_eq_true rfl) dX10_unpack_13 ⟨Nat.le_of_ble_eq_true rfl, Nat.le_of_ble_eq_true rfl⟩ (fun H locs w => ?_)
      clear hc
      refine lv_iconst (v := 1) C.1 C.2.1 dX10_unpack_16 (by decide) ?_
      refine lv_isub C.1 C.2.1 dX10_unpack_17 ?_
      refine zr_lti h (fun v2 h => ?_)
      refine lv_istore (lv' := [(4, .int v2), (3, .int (0 : Int32)), (0, .ref (zg_q G 0)), (1, .int x1), (2, .int x2)]) C.1 C.2.1 dX10_unpack_18 hl (by decide) rfl (fun ls hl => ?_)
      obtain ⟨v7, v8, hc, h⟩ := zc_b2_x h
      refine zk_X10_unpack_20 C _ x2 v7 v8 (fun H locs ls w hl => ?_) _ _ _ _ hc _ _ _ w (lv_sub hl [2, 3, 4, 1, 0] rfl)
      clear hc
      refine lv_aload_n C.1 C.2.1 dX10_unpack_61 rfl (lv_at hl 0 rfl) ?_
      refine zr_get C w 0 zm_w_X10 (zw_g0 G _) rfl 2 (by decide) zm_f_X10_16 rfl dX10_unpack_62 ?_
      refine lv_iload_n C.1 C.2.1 dX10_unpack_65 rfl (lv_at hl 2 rfl) ?_
      refine lv_iload_n C.1 C.2.1 dX10_unpack_66 rfl (lv_at hl 3 rfl) ?_
      refine zr_iast C w 3 (zw_g3 G _) (zw_s3 G _) dX10_unpack_67 h (fun S9 H locs w h => ?_)
      obtain ⟨v10, e_, h⟩ := zc_lt_x h
      refine lv_iinc (v := v10) (lv' := [(2, .int v10), (0, .ref (zg_q G 0)), (1, .int v7), (3, .int v8)]) C.1 C.2.1 dX10_unpack_68 hl (k := 2) rfl (by subst e_; rfl) (by decide) rfl (fun ls hl => ?_)
      clear e_
      refine lv_goto (tgt := 4) C.1 C.2.1 dX10_unpack_71 (by decide) ?_
      exact ih _ _ _ h _ _ _ w (lv_sub hl [1, 2, 0] rfl)
set_option maxHeartbeats 4000000 in
set_option maxRecDepth 100000 in
theorem zm_X10_unpack (l : Launch) (G : zg_T) (S : zs_T) (S1 : zs_T) (h : zf_X10_unpack S = some S1) : Met l yX10_unpack (Cond.code yX10_unpack cX10_unpack 6 none :: zt_G) zr_m_X10_unpack (va_Pc [.ref (zg_q G 0)] (zg_P G S)) (zg_Q G none S1) 0 0 (zg_A G) := by
  refine zx_met (by decide +kernel) (Nat.le_of_ble_eq_true rfl) (lv := [(0, .ref (zg_q G 0))]) rfl ?_
  intro p e s m below meth c C hr w ls hl
  replace C : zx_C p s m _ meth c G RX10 cX10_unpack 6 := C
  unfold zf_X10_unpack at h
  refine lv_iconst (v := 4) C.1 C.2.1 dX10_unpack_0 (by decide) ?_
  refine lv_istore_n (lv' := [(1, .int (4 : Int32)), (0, .ref (zg_q G 0))]) C.1 C.2.1 dX10_unpack_1 rfl hl (by decide) rfl (fun ls hl => ?_)
  refine lv_iconst (v := 0) C.1 C.2.1 dX10_unpack_2 (by decide) ?_
  refine lv_istore_n (lv' := [(2, .int (0 : Int32)), (1, .int (4 : Int32)), (0, .ref (zg_q G 0))]) C.1 C.2.1 dX10_unpack_3 rfl hl (by decide) rfl (fun ls hl => ?_)
  obtain ⟨S11, hc, h⟩ := zc_b1_x h
  refine zk_X10_unpack_4 C S11 (fun H locs ls w hl => ?_) _ _ _ _ hc _ _ _ w (lv_sub hl [2, 1, 0] rfl)
  clear hc
  exact zr_retv C w hr dX10_unpack_74 (Option.some.inj h)
set_option maxHeartbeats 4000000 in
set_option maxRecDepth 100000 in
theorem zm_X10_stateCells (l : Launch) (G : zg_T) (S : zs_T) (a1 : Int32) (r : Int32) (h : zf_X10_stateCells a1 = r) : Met l yX10_stateCells (Cond.code yX10_stateCells cX10_stateCells 1 (some .int) :: zt_G) zr_m_X10_stateCells (va_Pc [.int a1] (zg_P G S)) (zg_Q G (some (.int r)) S) 0 0 (zg_A G) := by
  refine zx_met (by decide +kernel) (Nat.le_of_ble_eq_true rfl) (lv := [(0, .int a1)]) rfl ?_
  intro p e s m below meth c C hr w ls hl
  replace C : zx_C p s m _ meth c G RX10 cX10_stateCells 1 := C
  unfold zf_X10_stateCells at h
  refine lv_iload_n C.1 C.2.1 dX10_stateCells_0 rfl (lv_at hl 0 rfl) ?_
  by_cases c0 : a1 = (0 : Int32)
  · replace h := (if_pos c0).symm.trans h
    refine lv_tableIn (tgt := 48) C.1 C.2.1 dX10_stateCells_1 (by rw [c0]; decide) (by rw [c0]; decide) (by rw [c0]; rfl) (by decide) ?_
    refine lv_bipush (v := 8) C.1 C.2.1 dX10_stateCells_48 (by decide) ?_
    exact zr_reti C w hr dX10_stateCells_50 h rfl
  replace h := (if_neg c0).symm.trans h
  by_cases c1 : a1 = (1 : Int32)
  · replace h := (if_pos c1).symm.trans h
    refine lv_tableIn (tgt := 48) C.1 C.2.1 dX10_stateCells_1 (by rw [c1]; decide) (by rw [c1]; decide) (by rw [c1]; rfl) (by decide) ?_
    refine lv_bipush (v := 8) C.1 C.2.1 dX10_stateCells_48 (by decide) ?_
    exact zr_reti C w hr dX10_stateCells_50 h rfl
  replace h := (if_neg c1).symm.trans h
  by_cases c2 : a1 = (2 : Int32)
  · replace h := (if_pos c2).symm.trans h
    refine lv_tableIn (tgt := 51) C.1 C.2.1 dX10_stateCells_1 (by rw [c2]; decide) (by rw [c2]; decide) (by rw [c2]; rfl) (by decide) ?_
    refine lv_bipush (v := 120) C.1 C.2.1 dX10_stateCells_51 (by decide) ?_
    exact zr_reti C w hr dX10_stateCells_53 h rfl
  replace h := (if_neg c2).symm.trans h
  by_cases c3 : a1 = (3 : Int32)
  · replace h := (if_pos c3).symm.trans h
    refine lv_tableIn (tgt := 51) C.1 C.2.1 dX10_stateCells_1 (by rw [c3]; decide) (by rw [c3]; decide) (by rw [c3]; rfl) (by decide) ?_
    refine lv_bipush (v := 120) C.1 C.2.1 dX10_stateCells_51 (by decide) ?_
    exact zr_reti C w hr dX10_stateCells_53 h rfl
  replace h := (if_neg c3).symm.trans h
  by_cases c4 : a1 = (4 : Int32)
  · replace h := (if_pos c4).symm.trans h
    refine lv_tableIn (tgt := 48) C.1 C.2.1 dX10_stateCells_1 (by rw [c4]; decide) (by rw [c4]; decide) (by rw [c4]; rfl) (by decide) ?_
    refine lv_bipush (v := 8) C.1 C.2.1 dX10_stateCells_48 (by decide) ?_
    exact zr_reti C w hr dX10_stateCells_50 h rfl
  replace h := (if_neg c4).symm.trans h
  by_cases c5 : a1 = (5 : Int32)
  · replace h := (if_pos c5).symm.trans h
    refine lv_tableIn (tgt := 48) C.1 C.2.1 dX10_stateCells_1 (by rw [c5]; decide) (by rw [c5]; decide) (by rw [c5]; rfl) (by decide) ?_
    refine lv_bipush (v := 8) C.1 C.2.1 dX10_stateCells_48 (by decide) ?_
    exact zr_reti C w hr dX10_stateCells_50 h rfl
  replace h := (if_neg c5).symm.trans h
  by_cases c6 : a1 = (6 : Int32)
  · replace h := (if_pos c6).symm.trans h
    refine lv_tableIn (tgt := 54) C.1 C.2.1 dX10_stateCells_1 (by rw [c6]; decide) (by rw [c6]; decide) (by rw [c6]; rfl) (by decide) ?_
    refine lv_iconst (v := 3) C.1 C.2.1 dX10_stateCells_54 (by decide) ?_
    exact zr_reti C w hr dX10_stateCells_55 h rfl
  replace h := (if_neg c6).symm.trans h
  by_cases c7 : a1 = (7 : Int32)
  · replace h := (if_pos c7).symm.trans h
    refine lv_tableIn (tgt := 56) C.1 C.2.1 dX10_stateCells_1 (by rw [c7]; decide) (by rw [c7]; decide) (by rw [c7]; rfl) (by decide) ?_
    refine lv_iconst (v := 2) C.1 C.2.1 dX10_stateCells_56 (by decide) ?_
    exact zr_reti C w hr dX10_stateCells_57 h rfl
  replace h := (if_neg c7).symm.trans h
  refine lv_tableOut (tgt := 58) C.1 C.2.1 dX10_stateCells_1 (by have q0 := lv_neT (a := 0) c0 rfl; have q1 := lv_neT (a := 1) c1 rfl; have q2 := lv_neT (a := 2) c2 rfl; have q3 := lv_neT (a := 3) c3 rfl; have q4 := lv_neT (a := 4) c4 rfl; have q5 := lv_neT (a := 5) c5 rfl; have q6 := lv_neT (a := 6) c6 rfl; have q7 := lv_neT (a := 7) c7 rfl; omega) (by decide) ?_
  refine lv_iconst (v := 0) C.1 C.2.1 dX10_stateCells_58 (by decide) ?_
  exact zr_reti C w hr dX10_stateCells_59 h rfl
set_option maxHeartbeats 4000000 in
set_option maxRecDepth 100000 in
theorem zm_X3_goingOn (l : Launch) (G : zg_T) (S : zs_T) (a1 : Int32) (r : Int32) (h : zf_X3_goingOn S a1 = some r) : Met l yX3_goingOn (Cond.code yX3_goingOn cX3_goingOn 2 (some .int) :: zt_G) zr_m_X3_goingOn (va_Pc [.ref (zg_q G 8), .int a1] (zg_P G S)) (zg_Q G (some (.int r)) S) 0 0 (zg_A G) := by
  refine zx_met (by decide +kernel) (Nat.le_of_ble_eq_true rfl) (lv := [(0, .ref (zg_q G 8)), (1, .int a1)]) rfl ?_
  intro p e s m below meth c C hr w ls hl
  replace C : zx_C p s m _ meth c G RX3 cX3_goingOn 2 := C
  unfold zf_X3_goingOn at h
  refine lv_iload_n C.1 C.2.1 dX3_goingOn_0 rfl (lv_at hl 1 rfl) ?_
  refine zr_if_ne (tgt := 11) C dX3_goingOn_1 (by decide) h (fun h => ?_) (fun h => ?_)
  · refine lv_iload_n C.1 C.2.1 dX3_goingOn_11 rfl (lv_at hl 1 rfl) ?_
    refine lv_iconst (v := 1) C.1 C.2.1 dX3_goingOn_12 (by decide) ?_
    refine zr_ic_ne (tgt := 23) C dX3_goingOn_13 (by decide) h (fun h => ?_) (fun h => ?_)
    · refine lv_aload_n C.1 C.2.1 dX3_goingOn_23 rfl (lv_at hl 0 rfl) ?_
      refine zr_get C w 8 zm_w_X3 (zw_g8 G _) rfl 2 (by decide) zm_f_X3_22 rfl dX3_goingOn_24 ?_
      exact zr_reti C w hr dX3_goingOn_27 (Option.some.inj h) rfl
    · refine lv_aload_n C.1 C.2.1 dX3_goingOn_16 rfl (lv_at hl 0 rfl) ?_
      refine zr_get C w 8 zm_w_X3 (zw_g8 G _) rfl 1 (by decide) zm_f_X3_19 rfl dX3_goingOn_17 ?_
      refine lv_goto (tgt := 27) C.1 C.2.1 dX3_goingOn_20 (by decide) ?_
      exact zr_reti C w hr dX3_goingOn_27 (Option.some.inj h) rfl
  · refine lv_aload_n C.1 C.2.1 dX3_goingOn_4 rfl (lv_at hl 0 rfl) ?_
    refine zr_get C w 8 zm_w_X3 (zw_g8 G _) rfl 0 (by decide) zm_f_X3_15 rfl dX3_goingOn_5 ?_
    refine lv_goto (tgt := 27) C.1 C.2.1 dX3_goingOn_8 (by decide) ?_
    exact zr_reti C w hr dX3_goingOn_27 (Option.some.inj h) rfl
set_option maxHeartbeats 4000000 in
set_option maxRecDepth 100000 in
theorem zk_J7_fill_53178_5_3 {p : Program} {l : Launch} {e : Env} {s : State} {m : MethodId} {args : Array Value} {below : List Frame} {meth : Method} {c : Code} {G : zg_T} {Q : State → Prop} (C : zx_C p s m args meth c G RJ7 cJ7_fill_53178 4) (f1 : Int32) (f3 : Int32) (oS : zs_T) (kont : ∀ (H : Heap) (locs : List Loc) (ls : Array Slot), zg_W G oS s H locs → lv_has ls 4 [] → W p l e zr_m_J7_fill_53178 s m args below meth c H locs 0 0 Q (F0 m 20 ls [])) : ∀ (n : Nat) (S : zs_T) (x2 : Int32), zl_2 (zb_J7_fill_53178_5 3 76 f1 f3) n S x2 = some oS → ∀ (H : Heap) (locs : List Loc) (ls : Array Slot), zg_W G S s H locs → lv_has ls 4 [(0, .ref (zg_q G 3)), (1, .int f1), (2, .int x2), (3, .int f3)] → W p l e zr_m_J7_fill_53178 s m args below meth c H locs 0 0 Q (F0 m 5 ls []) := by
  intro n
  induction n with
  | zero => intro S x2 h; cases h
  | succ n ih =>
    intro S x2 h H locs ls w hl
    replace h : zb_J7_fill_53178_5 3 76 f1 f3 (zl_2 (zb_J7_fill_53178_5 3 76 f1 f3) n) S x2 = some oS := h
    generalize zl_2 (zb_J7_fill_53178_5 3 76 f1 f3) n = rec at ih h
    unfold zb_J7_fill_53178_5 at h
    refine lv_iload_n C.1 C.2.1 dJ7_fill_53178_5 rfl (lv_at hl 2 rfl) ?_
    refine lv_iload_n C.1 C.2.1 dJ7_fill_53178_6 rfl (lv_at hl 3 rfl) ?_
    refine zr_ic_ge (tgt := 20) C dJ7_fill_53178_7 (by decide) h (fun h => ?_) (fun h => ?_)
    · cases h
      exact kont _ _ _ w (lv_sub hl [] rfl)
    · refine lv_aload_n C.1 C.2.1 dJ7_fill_53178_10 rfl (lv_at hl 0 rfl) ?_
      refine lv_iload_n C.1 C.2.1 dJ7_fill_53178_11 rfl (lv_at hl 2 rfl) ?_
      refine lv_iload_n C.1 C.2.1 dJ7_fill_53178_12 rfl (lv_at hl 1 rfl) ?_
      refine zr_iast C w 3 (zw_g3 G _) (zw_s3 G _) dJ7_fill_53178_13 h (fun S2 H locs w h => ?_)
      obtain ⟨v3, e_, h⟩ := zc_lt_x h
      refine lv_iinc (v := v3) (lv' := [(2, .int v3), (0, .ref (zg_q G 3)), (1, .int f1), (3, .int f3)]) C.1 C.2.1 dJ7_fill_53178_14 hl (k := 2) rfl (by subst e_; rfl) (by decide) rfl (fun ls hl => ?_)
      clear e_
      refine lv_goto (tgt := 5) C.1 C.2.1 dJ7_fill_53178_17 (by decide) ?_
      exact ih _ _ h _ _ _ w (lv_sub hl [1, 2, 0, 3] rfl)
set_option maxHeartbeats 4000000 in
set_option maxRecDepth 100000 in
theorem zm_J7_fill_53178_3 (l : Launch) (G : zg_T) (S : zs_T) (a1 : Int32) (S1 : zs_T) (h : zf_J7_fill_53178 3 76 S a1 = some S1) : Met l yJ7_fill_53178 (Cond.code yJ7_fill_53178 cJ7_fill_53178 4 none :: zt_G) zr_m_J7_fill_53178 (va_Pc [.ref (zg_q G 3), .int a1] (zg_P G S)) (zg_Q G none S1) 0 0 (zg_A G) := by
  refine zx_met (by decide +kernel) (Nat.le_of_ble_eq_true rfl) (lv := [(0, .ref (zg_q G 3)), (1, .int a1)]) rfl ?_
  intro p e s m below meth c C hr w ls hl
  replace C : zx_C p s m _ meth c G RJ7 cJ7_fill_53178 4 := C
  unfold zf_J7_fill_53178 at h
  refine lv_iconst (v := 0) C.1 C.2.1 dJ7_fill_53178_0 (by decide) ?_
  refine lv_istore_n (lv' := [(2, .int (0 : Int32)), (0, .ref (zg_q G 3)), (1, .int a1)]) C.1 C.2.1 dJ7_fill_53178_1 rfl hl (by decide) rfl (fun ls hl => ?_)
  refine lv_aload_n C.1 C.2.1 dJ7_fill_53178_2 rfl (lv_at hl 1 rfl) ?_
  refine zr_alen C w 3 (zw_g3 G _) rfl dJ7_fill_53178_3 ?_
  refine zr_lti h (fun v1 h => ?_)
  refine lv_istore_n (lv' := [(3, .int v1), (2, .int (0 : Int32)), (0, .ref (zg_q G 3)), (1, .int a1)]) C.1 C.2.1 dJ7_fill_53178_4 rfl hl (by decide) rfl (fun ls hl => ?_)
  obtain ⟨S4, hc, h⟩ := zc_b1_x h
  refine zk_J7_fill_53178_5_3 C a1 v1 S4 (fun H locs ls w hl => ?_) _ _ _ hc _ _ _ w (lv_sub hl [2, 3, 1, 0] rfl)
  clear hc
  exact zr_retv C w hr dJ7_fill_53178_20 (Option.some.inj h)
set_option maxHeartbeats 4000000 in
set_option maxRecDepth 100000 in
theorem zk_J7_fill_53178_5_4 {p : Program} {l : Launch} {e : Env} {s : State} {m : MethodId} {args : Array Value} {below : List Frame} {meth : Method} {c : Code} {G : zg_T} {Q : State → Prop} (C : zx_C p s m args meth c G RJ7 cJ7_fill_53178 4) (f1 : Int32) (f3 : Int32) (oS : zs_T) (kont : ∀ (H : Heap) (locs : List Loc) (ls : Array Slot), zg_W G oS s H locs → lv_has ls 4 [] → W p l e zr_m_J7_fill_53178 s m args below meth c H locs 0 0 Q (F0 m 20 ls [])) : ∀ (n : Nat) (S : zs_T) (x2 : Int32), zl_2 (zb_J7_fill_53178_5 4 160 f1 f3) n S x2 = some oS → ∀ (H : Heap) (locs : List Loc) (ls : Array Slot), zg_W G S s H locs → lv_has ls 4 [(0, .ref (zg_q G 4)), (1, .int f1), (2, .int x2), (3, .int f3)] → W p l e zr_m_J7_fill_53178 s m args below meth c H locs 0 0 Q (F0 m 5 ls []) := by
  intro n
  induction n with
  | zero => intro S x2 h; cases h
  | succ n ih =>
    intro S x2 h H locs ls w hl
    replace h : zb_J7_fill_53178_5 4 160 f1 f3 (zl_2 (zb_J7_fill_53178_5 4 160 f1 f3) n) S x2 = some oS := h
    generalize zl_2 (zb_J7_fill_53178_5 4 160 f1 f3) n = rec at ih h
    unfold zb_J7_fill_53178_5 at h
    refine lv_iload_n C.1 C.2.1 dJ7_fill_53178_5 rfl (lv_at hl 2 rfl) ?_
    refine lv_iload_n C.1 C.2.1 dJ7_fill_53178_6 rfl (lv_at hl 3 rfl) ?_
    refine zr_ic_ge (tgt := 20) C dJ7_fill_53178_7 (by decide) h (fun h => ?_) (fun h => ?_)
    · cases h
      exact kont _ _ _ w (lv_sub hl [] rfl)
    · refine lv_aload_n C.1 C.2.1 dJ7_fill_53178_10 rfl (lv_at hl 0 rfl) ?_
      refine lv_iload_n C.1 C.2.1 dJ7_fill_53178_11 rfl (lv_at hl 2 rfl) ?_
      refine lv_iload_n C.1 C.2.1 dJ7_fill_53178_12 rfl (lv_at hl 1 rfl) ?_
      refine zr_iast C w 4 (zw_g4 G _) (zw_s4 G _) dJ7_fill_53178_13 h (fun S2 H locs w h => ?_)
      obtain ⟨v3, e_, h⟩ := zc_lt_x h
      refine lv_iinc (v := v3) (lv' := [(2, .int v3), (0, .ref (zg_q G 4)), (1, .int f1), (3, .int f3)]) C.1 C.2.1 dJ7_fill_53178_14 hl (k := 2) rfl (by subst e_; rfl) (by decide) rfl (fun ls hl => ?_)
      clear e_
      refine lv_goto (tgt := 5) C.1 C.2.1 dJ7_fill_53178_17 (by decide) ?_
      exact ih _ _ h _ _ _ w (lv_sub hl [1, 2, 0, 3] rfl)
set_option maxHeartbeats 4000000 in
set_option maxRecDepth 100000 in
theorem zm_J7_fill_53178_4 (l : Launch) (G : zg_T) (S : zs_T) (a1 : Int32) (S1 : zs_T) (h : zf_J7_fill_53178 4 160 S a1 = some S1) : Met l yJ7_fill_53178 (Cond.code yJ7_fill_53178 cJ7_fill_53178 4 none :: zt_G) zr_m_J7_fill_53178 (va_Pc [.ref (zg_q G 4), .int a1] (zg_P G S)) (zg_Q G none S1) 0 0 (zg_A G) := by
  refine zx_met (by decide +kernel) (Nat.le_of_ble_eq_true rfl) (lv := [(0, .ref (zg_q G 4)), (1, .int a1)]) rfl ?_
  intro p e s m below meth c C hr w ls hl
  replace C : zx_C p s m _ meth c G RJ7 cJ7_fill_53178 4 := C
  unfold zf_J7_fill_53178 at h
  refine lv_iconst (v := 0) C.1 C.2.1 dJ7_fill_53178_0 (by decide) ?_
  refine lv_istore_n (lv' := [(2, .int (0 : Int32)), (0, .ref (zg_q G 4)), (1, .int a1)]) C.1 C.2.1 dJ7_fill_53178_1 rfl hl (by decide) rfl (fun ls hl => ?_)
  refine lv_aload_n C.1 C.2.1 dJ7_fill_53178_2 rfl (lv_at hl 1 rfl) ?_
  refine zr_alen C w 4 (zw_g4 G _) rfl dJ7_fill_53178_3 ?_
  refine zr_lti h (fun v1 h => ?_)
  refine lv_istore_n (lv' := [(3, .int v1), (2, .int (0 : Int32)), (0, .ref (zg_q G 4)), (1, .int a1)]) C.1 C.2.1 dJ7_fill_53178_4 rfl hl (by decide) rfl (fun ls hl => ?_)
  obtain ⟨S4, hc, h⟩ := zc_b1_x h
  refine zk_J7_fill_53178_5_4 C a1 v1 S4 (fun H locs ls w hl => ?_) _ _ _ hc _ _ _ w (lv_sub hl [2, 3, 1, 0] rfl)
  clear hc
  exact zr_retv C w hr dJ7_fill_53178_20 (Option.some.inj h)
set_option maxHeartbeats 4000000 in
set_option maxRecDepth 100000 in
theorem zm_X10_take (l : Launch) (G : zg_T) (S : zs_T) (r : Int32) (S1 : zs_T) (h : zf_X10_take S = some (r, S1)) : Met l yX10_take (Cond.code yX10_take cX10_take 1 (some .int) :: zt_G) zr_m_X10_take (va_Pc [.ref (zg_q G 0)] (zg_P G S)) (zg_Q G (some (.int r)) S1) 0 0 (zg_A G) := by
  refine zx_met (by decide +kernel) (Nat.le_of_ble_eq_true rfl) (lv := [(0, .ref (zg_q G 0))]) rfl ?_
  intro p e s m below meth c C hr w ls hl
  replace C : zx_C p s m _ meth c G RX10 cX10_take 1 := C
  unfold zf_X10_take at h
  refine lv_aload_n C.1 C.2.1 dX10_take_0 rfl (lv_at hl 0 rfl) ?_
  obtain ⟨S1, hc, h⟩ := zc_b1_x h
  refine zr_callVv C w 0 (zw_g0 G _) rfl (As := []) (zm_X10_pack l G _ _ hc) zm_c_X10_pack zm_l_X10_74 zm_i_X10_pack zm_e_X10_pack zm_0_X10 zm_d_X10_pack ⟨rfl, rfl⟩ ⟨Nat.le_of_ble_eq_true rfl, Nat.le_of_ble_eq_true rfl⟩ hl.1 rfl rfl (Nat.le_of_ble_eq_true rfl) dX10_take_1 ⟨Nat.le_of_ble_eq_true rfl, Nat.le_of_ble_eq_true rfl⟩ (fun H locs w => ?_)
  clear hc
  refine lv_aload_n C.1 C.2.1 dX10_take_4 rfl (lv_at hl 0 rfl) ?_
  refine lv_bipush (v := 33) C.1 C.2.1 dX10_take_5 (by decide) ?_
  refine zr_put C w 0 zm_w_X10 tyX10 tyX10_ok nmX10 (zw_g0 G _) rfl 7 (by decide) zm_f_X10_40 rfl (ty := .int) (by decide +kernel) rfl rfl (Nat.le_of_ble_eq_true rfl) (zw_f0_7 G _ _) dX10_take_7 h (fun S2 H locs w h => ?_)
  refine lv_aload_n C.1 C.2.1 dX10_take_10 rfl (lv_at hl 0 rfl) ?_
  refine zr_get C w 0 zm_w_X10 (zw_g0 G _) rfl 7 (by decide) zm_f_X10_40 rfl dX10_take_11 ?_
  exact zr_reti C w hr dX10_take_14 (congrArg Prod.fst (Option.some.inj h)) (congrArg Prod.snd (Option.some.inj h))
set_option maxHeartbeats 4000000 in
set_option maxRecDepth 100000 in
theorem zq_X10_decode_27 {p : Program} {l : Launch} {e : Env} {s : State} {m : MethodId} {args : Array Value} {below : List Frame} {meth : Method} {c : Code} {G : zg_T} (hr : meth.sig.returnType = (some .int)) (C : zx_C p s m args meth c G RX10 cX10_decode 2) (r : Int32) (S1 : zs_T) (S : zs_T) (z0 : Int32) (h : zj_X10_decode_27 S z0 = some (r, S1)) (H : Heap) (locs : List Loc) (ls : Array Slot) (w : zg_W G S s H locs) (hl : lv_has ls 2 [(0, .ref (zg_q G 0))]) : W p l e zr_m_X10_decode s m args below meth c H locs 0 0 (MQ below (zg_Q G (some (.int r)) S1) args s 0 0 (zg_A G)) (F0 m 27 ls [.int z0]) := by
  unfold zj_X10_decode_27 at h
  refine lv_istore_n (lv' := [(1, .int z0), (0, .ref (zg_q G 0))]) C.1 C.2.1 dX10_decode_27 rfl hl (by decide) rfl (fun ls hl => ?_)
  refine lv_aload_n C.1 C.2.1 dX10_decode_28 rfl (lv_at hl 1 rfl) ?_
  refine lv_iconst (v := 0) C.1 C.2.1 dX10_decode_29 (by decide) ?_
  refine zr_put C w 0 zm_w_X10 tyX10 tyX10_ok nmX10 (zw_g0 G _) rfl 7 (by decide) zm_f_X10_40 rfl (ty := .int) (by decide +kernel) rfl rfl (Nat.le_of_ble_eq_true rfl) (zw_f0_7 G _ _) dX10_decode_30 h (fun S1 H locs w h => ?_)
  refine lv_iload_n C.1 C.2.1 dX10_decode_33 rfl (lv_at hl 0 rfl) ?_
  refine zr_if_ne (tgt := 39) C dX10_decode_34 (by decide) h (fun h => ?_) (fun h => ?_)
  · refine lv_aload_n C.1 C.2.1 dX10_decode_39 rfl (lv_at hl 1 rfl) ?_
    obtain ⟨S2, hc, h⟩ := zc_b1_x h
    refine zr_callVv C w 0 (zw_g0 G _) rfl (As := []) (zm_X10_unpack l G _ _ hc) zm_c_X10_unpack zm_l_X10_77 zm_i_X10_unpack zm_e_X10_unpack zm_0_X10 zm_d_X10_unpack ⟨rfl, rfl⟩ ⟨Nat.le_of_ble_eq_true rfl, Nat.le_of_ble_eq_true rfl⟩ hl.1 rfl rfl (Nat.le_of_ble_eq_true rfl) dX10_decode_40 ⟨Nat.le_of_ble_eq_true rfl, Nat.le_of_ble_eq_true rfl⟩ (fun H locs w => ?_)
    clear hc
    refine lv_aload_n C.1 C.2.1 dX10_decode_43 rfl (lv_at hl 1 rfl) ?_
    refine zr_get C w 0 zm_w_X10 (zw_g0 G _) rfl 5 (by decide) zm_f_X10_32 rfl dX10_decode_44 ?_
    refine lv_aload_n C.1 C.2.1 dX10_decode_47 rfl (lv_at hl 1 rfl) ?_
    refine zr_get C w 0 zm_w_X10 (zw_g0 G _) rfl 2 (by decide) zm_f_X10_16 rfl dX10_decode_48 ?_
    refine lv_aload_n C.1 C.2.1 dX10_decode_51 rfl (lv_at hl 1 rfl) ?_
    refine zr_get C w 0 zm_w_X10 (zw_g0 G _) rfl 3 (by decide) zm_f_X10_19 rfl dX10_decode_52 ?_
    obtain ⟨S3, hc, h⟩ := zc_b1_x h
    refine zr_callVv C w 29 (zw_g29 G _) rfl (As := [.ref (zg_q G 3), .ref (zg_q G 4)]) (zm_X0_speak l G _ _ hc) zm_c_X0_speak zm_l_X10_80 zm_i_X0_speak zm_e_X0_speak zm_0_X0 zm_d_X0_speak ⟨rfl, rfl⟩ ⟨Nat.le_of_ble_eq_true rfl, Nat.le_of_ble_eq_true rfl⟩ hl.1 rfl rfl (Nat.le_of_ble_eq_true rfl) dX10_decode_55 ⟨Nat.le_of_ble_eq_true rfl, Nat.le_of_ble_eq_true rfl⟩ (fun H locs w => ?_)
    clear hc
    refine lv_aload_n C.1 C.2.1 dX10_decode_58 rfl (lv_at hl 1 rfl) ?_
    refine zr_get C w 0 zm_w_X10 (zw_g0 G _) rfl 5 (by decide) zm_f_X10_32 rfl dX10_decode_59 ?_
    refine zr_getN C w 29 zm_w_X0 (zw_g29 G _) rfl 6 (by decide) zm_n_X10_83 rfl dX10_decode_62 ?_
    exact zr_reti C w hr dX10_decode_65 (congrArg Prod.fst (Option.some.inj h)) (congrArg Prod.snd (Option.some.inj h))
  · refine lv_iconst (v := -1) C.1 C.2.1 dX10_decode_37 (by decide) ?_
    exact zr_reti C w hr dX10_decode_38 (congrArg Prod.fst (Option.some.inj h)) (congrArg Prod.snd (Option.some.inj h))
set_option maxHeartbeats 4000000 in
set_option maxRecDepth 100000 in
theorem zq_X10_decode_26 {p : Program} {l : Launch} {e : Env} {s : State} {m : MethodId} {args : Array Value} {below : List Frame} {meth : Method} {c : Code} {G : zg_T} (hr : meth.sig.returnType = (some .int)) (C : zx_C p s m args meth c G RX10 cX10_decode 2) (r : Int32) (S1 : zs_T) (S : zs_T) (h : zj_X10_decode_26 S = some (r, S1)) (H : Heap) (locs : List Loc) (ls : Array Slot) (w : zg_W G S s H locs) (hl : lv_has ls 2 [(0, .ref (zg_q G 0))]) : W p l e zr_m_X10_decode s m args below meth c H locs 0 0 (MQ below (zg_Q G (some (.int r)) S1) args s 0 0 (zg_A G)) (F0 m 26 ls []) := by
  unfold zj_X10_decode_26 at h
  refine lv_iconst (v := 0) C.1 C.2.1 dX10_decode_26 (by decide) ?_
  exact zq_X10_decode_27 hr C _ _ _ _ h _ _ _ w (lv_sub hl [0] rfl)
set_option maxHeartbeats 4000000 in
set_option maxRecDepth 100000 in
theorem zm_X10_decode (l : Launch) (G : zg_T) (S : zs_T) (r : Int32) (S1 : zs_T) (h : zf_X10_decode S = some (r, S1)) : Met l yX10_decode (Cond.code yX10_decode cX10_decode 2 (some .int) :: zt_G) zr_m_X10_decode (va_Pc [.ref (zg_q G 0)] (zg_P G S)) (zg_Q G (some (.int r)) S1) 0 0 (zg_A G) := by
  refine zx_met (by decide +kernel) (Nat.le_of_ble_eq_true rfl) (lv := [(0, .ref (zg_q G 0))]) rfl ?_
  intro p e s m below meth c C hr w ls hl
  replace C : zx_C p s m _ meth c G RX10 cX10_decode 2 := C
  unfold zf_X10_decode at h
  refine lv_aload_n C.1 C.2.1 dX10_decode_0 rfl (lv_at hl 0 rfl) ?_
  refine zr_get C w 0 zm_w_X10 (zw_g0 G _) rfl 7 (by decide) zm_f_X10_40 rfl dX10_decode_1 ?_
  refine lv_bipush (v := 33) C.1 C.2.1 dX10_decode_4 (by decide) ?_
  refine zr_ic_ne (tgt := 26) C dX10_decode_6 (by decide) h (fun h => ?_) (fun h => ?_)
  · exact zq_X10_decode_26 hr C _ _ _ h _ _ _ w (lv_sub hl [0] rfl)
  · refine lv_aload_n C.1 C.2.1 dX10_decode_9 rfl (lv_at hl 0 rfl) ?_
    refine zr_get C w 0 zm_w_X10 (zw_g0 G _) rfl 1 (by decide) zm_f_X10_13 rfl dX10_decode_10 ?_
    refine lv_iconst (v := 0) C.1 C.2.1 dX10_decode_13 (by decide) ?_
    refine zr_iald C w 2 (zw_g2 G _) dX10_decode_14 h (fun h => ?_)
    refine lv_iconst (v := 4) C.1 C.2.1 dX10_decode_15 (by decide) ?_
    refine lv_ishr C.1 C.2.1 dX10_decode_16 ?_
    refine lv_bipush (v := 13) C.1 C.2.1 dX10_decode_17 (by decide) ?_
    refine zr_ic_ne (tgt := 26) C dX10_decode_19 (by decide) h (fun h => ?_) (fun h => ?_)
    · exact zq_X10_decode_26 hr C _ _ _ h _ _ _ w (lv_sub hl [0] rfl)
    · refine lv_iconst (v := 1) C.1 C.2.1 dX10_decode_22 (by decide) ?_
      refine lv_goto (tgt := 27) C.1 C.2.1 dX10_decode_23 (by decide) ?_
      exact zq_X10_decode_27 hr C _ _ _ _ h _ _ _ w (lv_sub hl [0] rfl)
set_option maxHeartbeats 4000000 in
set_option maxRecDepth 100000 in
theorem zm_X10_hand (l : Launch) (G : zg_T) (S : zs_T) (a1 : Int32) (r : Int32) (h : zf_X10_hand S a1 = some r) : Met l yX10_hand (Cond.code yX10_hand cX10_hand 2 (some .int) :: zt_G) zr_m_X10_hand (va_Pc [.ref (zg_q G 0), .int a1] (zg_P G S)) (zg_Q G (some (.int r)) S) 0 0 (zg_A G) := by
  refine zx_met (by decide +kernel) (Nat.le_of_ble_eq_true rfl) (lv := [(0, .ref (zg_q G 0)), (1, .int a1)]) rfl ?_
  intro p e s m below meth c C hr w ls hl
  replace C : zx_C p s m _ meth c G RX10 cX10_hand 2 := C
  unfold zf_X10_hand at h
  refine lv_iload_n C.1 C.2.1 dX10_hand_0 rfl (lv_at hl 1 rfl) ?_
  refine zr_if_lt (tgt := 21) C dX10_hand_1 (by decide) h (fun h => ?_) (fun h => ?_)
  · refine lv_iconst (v := -1) C.1 C.2.1 dX10_hand_21 (by decide) ?_
    exact zr_reti C w hr dX10_hand_22 (Option.some.inj h) rfl
  · refine lv_iload_n C.1 C.2.1 dX10_hand_4 rfl (lv_at hl 1 rfl) ?_
    refine lv_aload_n C.1 C.2.1 dX10_hand_5 rfl (lv_at hl 0 rfl) ?_
    refine zr_get C w 0 zm_w_X10 (zw_g0 G _) rfl 7 (by decide) zm_f_X10_40 rfl dX10_hand_6 ?_
    refine zr_ic_ge (tgt := 21) C dX10_hand_9 (by decide) h (fun h => ?_) (fun h => ?_)
    · refine lv_iconst (v := -1) C.1 C.2.1 dX10_hand_21 (by decide) ?_
      exact zr_reti C w hr dX10_hand_22 (Option.some.inj h) rfl
    · refine lv_aload_n C.1 C.2.1 dX10_hand_12 rfl (lv_at hl 0 rfl) ?_
      refine zr_get C w 0 zm_w_X10 (zw_g0 G _) rfl 1 (by decide) zm_f_X10_13 rfl dX10_hand_13 ?_
      refine lv_iload_n C.1 C.2.1 dX10_hand_16 rfl (lv_at hl 1 rfl) ?_
      refine zr_iald C w 2 (zw_g2 G _) dX10_hand_17 h (fun h => ?_)
      refine lv_goto (tgt := 22) C.1 C.2.1 dX10_hand_18 (by decide) ?_
      exact zr_reti C w hr dX10_hand_22 (Option.some.inj h) rfl
set_option maxHeartbeats 4000000 in
set_option maxRecDepth 100000 in
theorem zm_X10_put (l : Launch) (hst : l.stackTraces = false) (G : zg_T) (S : zs_T) (a1 : Int32) (k r : Int32) (S1 : zs_T) (h : zf_X10_put S a1 = some (k, r, S1)) : vx_Met l yX10_put (Cond.code yX10_put cX10_put 2 (some .int) :: zt_G) zr_m_X10_put (va_Pc [.ref (zg_q G 0), .int a1] (zg_P G S)) (zx_Q G k (some (.int r)) S1) (zx_X G k S1) 1 6 (zg_A G) := by
  refine zx_metT (by decide +kernel) (Nat.le_of_ble_eq_true rfl) (lv := [(0, .ref (zg_q G 0)), (1, .int a1)]) rfl ?_
  intro p e s m below meth c C hr hx w ls hl
  replace C : zx_C p s m _ meth c G RX10 cX10_put 2 := C
  unfold zf_X10_put at h
  refine lv_iload_n C.1 C.2.1 dX10_put_0 rfl (lv_at hl 1 rfl) ?_
  refine lv_sipush (v := -32768) C.1 C.2.1 dX10_put_1 (by decide) ?_
  refine zr_ic_lt (tgt := 14) C dX10_put_4 (by decide) h (fun h => ?_) (fun h => ?_)
  · exact zr_thr1 C hx hst w (is := 45) (text := "a sample is -32768 .. 32767") (by decide +kernel) hl.1 dX10_put_14 dX10_put_17 dX10_put_18 dX10_put_20 dX10_put_23 (by decide) (Nat.le_of_ble_eq_true rfl) (Nat.le_of_ble_eq_true rfl) (Nat.le_of_ble_eq_true rfl) h
  · refine lv_iload_n C.1 C.2.1 dX10_put_7 rfl (lv_at hl 1 rfl) ?_
    refine lv_sipush (v := 32767) C.1 C.2.1 dX10_put_8 (by decide) ?_
    refine zr_ic_le (tgt := 24) C dX10_put_11 (by decide) h (fun h => ?_) (fun h => ?_)
    · refine lv_aload_n C.1 C.2.1 dX10_put_24 rfl (lv_at hl 0 rfl) ?_
      refine zr_get C w 0 zm_w_X10 (zw_g0 G _) rfl 6 (by decide) zm_f_X10_36 rfl dX10_put_25 ?_
      refine lv_sipush (v := 160) C.1 C.2.1 dX10_put_28 (by decide) ?_
      refine zr_ic_lt (tgt := 44) C dX10_put_31 (by decide) h (fun h => ?_) (fun h => ?_)
      · refine lv_aload_n C.1 C.2.1 dX10_put_44 rfl (lv_at hl 0 rfl) ?_
        refine zr_get C w 0 zm_w_X10 (zw_g0 G _) rfl 0 (by decide) zm_f_X10_9 rfl dX10_put_45 ?_
        refine lv_aload_n C.1 C.2.1 dX10_put_48 rfl (lv_at hl 0 rfl) ?_
        refine zr_get C w 0 zm_w_X10 (zw_g0 G _) rfl 6 (by decide) zm_f_X10_36 rfl dX10_put_49 ?_
        refine lv_iload_n C.1 C.2.1 dX10_put_52 rfl (lv_at hl 1 rfl) ?_
        refine zr_iast C w 1 (zw_g1 G _) (zw_s1 G _) dX10_put_53 h (fun S1 H locs w h => ?_)
        refine lv_aload_n C.1 C.2.1 dX10_put_54 rfl (lv_at hl 0 rfl) ?_
        refine lv_dup C.1 C.2.1 dX10_put_55 rfl ?_
        refine zr_get C w 0 zm_w_X10 (zw_g0 G _) rfl 6 (by decide) zm_f_X10_36 rfl dX10_put_56 ?_
        refine lv_iconst (v := 1) C.1 C.2.1 dX10_put_59 (by decide) ?_
        refine lv_iadd C.1 C.2.1 dX10_put_60 ?_
        refine zr_put C w 0 zm_w_X10 tyX10 tyX10_ok nmX10 (zw_g0 G _) rfl 6 (by decide) zm_f_X10_36 rfl (ty := .int) (by decide +kernel) rfl rfl (Nat.le_of_ble_eq_true rfl) (zw_f0_6 G _ _) dX10_put_61 h (fun S2 H locs w h => ?_)
        refine lv_aload_n C.1 C.2.1 dX10_put_64 rfl (lv_at hl 0 rfl) ?_
        refine zr_get C w 0 zm_w_X10 (zw_g0 G _) rfl 6 (by decide) zm_f_X10_36 rfl dX10_put_65 ?_
        exact zr_xreti C w hr dX10_put_68 h
      · exact zr_thr2 C hx hst w (is := 52) (text := "there are 160 samples") (by decide +kernel) hl.1 dX10_put_34 dX10_put_37 dX10_put_38 dX10_put_40 dX10_put_43 (by decide) (Nat.le_of_ble_eq_true rfl) (Nat.le_of_ble_eq_true rfl) (Nat.le_of_ble_eq_true rfl) h
    · exact zr_thr1 C hx hst w (is := 45) (text := "a sample is -32768 .. 32767") (by decide +kernel) hl.1 dX10_put_14 dX10_put_17 dX10_put_18 dX10_put_20 dX10_put_23 (by decide) (Nat.le_of_ble_eq_true rfl) (Nat.le_of_ble_eq_true rfl) (Nat.le_of_ble_eq_true rfl) h
set_option maxHeartbeats 4000000 in
set_option maxRecDepth 100000 in
theorem zk_X10_fill_46 {p : Program} {l : Launch} {e : Env} {s : State} {m : MethodId} {args : Array Value} {below : List Frame} {meth : Method} {c : Code} {G : zg_T} {Q : State → Prop} (C : zx_C p s m args meth c G RX10 cX10_fill 5) (f1 : Int32) (f2 : Int32) (f3 : Int32) (oS : zs_T) (kont : ∀ (H : Heap) (locs : List Loc) (ls : Array Slot), zg_W G oS s H locs → lv_has ls 5 [(0, .ref (zg_q G 0)), (3, .int f3)] → W p l e zr_m_X10_fill s m args below meth c H locs 0 0 Q (F0 m 77 ls [])) : ∀ (n : Nat) (S : zs_T) (x4 : Int32), zl_2 (zb_X10_fill_46 f1 f2 f3) n S x4 = some oS → ∀ (H : Heap) (locs : List Loc) (ls : Array Slot), zg_W G S s H locs → lv_has ls 5 [(0, .ref (zg_q G 0)), (1, .int f1), (2, .int f2), (3, .int f3), (4, .int x4)] → W p l e zr_m_X10_fill s m args below meth c H locs 0 0 Q (F0 m 46 ls []) := by
  intro n
  induction n with
  | zero => intro S x4 h; cases h
  | succ n ih =>
    intro S x4 h H locs ls w hl
    replace h : zb_X10_fill_46 f1 f2 f3 (zl_2 (zb_X10_fill_46 f1 f2 f3) n) S x4 = some oS := h
    generalize zl_2 (zb_X10_fill_46 f1 f2 f3) n = rec at ih h
    unfold zb_X10_fill_46 at h
    refine lv_iload C.1 C.2.1 dX10_fill_46 (lv_at hl 4 rfl) ?_
    refine lv_iload_n C.1 C.2.1 dX10_fill_48 rfl (lv_at hl 3 rfl) ?_
    refine zr_ic_ge (tgt := 77) C dX10_fill_49 (by decide) h (fun h => ?_) (fun h => ?_)
    · cases h
      exact kont _ _ _ w (lv_sub hl [0, 3] rfl)
    · refine lv_aload_n C.1 C.2.1 dX10_fill_52 rfl (lv_at hl 0 rfl) ?_
      refine zr_get C w 0 zm_w_X10 (zw_g0 G _) rfl 0 (by decide) zm_f_X10_9 rfl dX10_fill_53 ?_
      refine lv_aload_n C.1 C.2.1 dX10_fill_56 rfl (lv_at hl 0 rfl) ?_
      refine zr_get C w 0 zm_w_X10 (zw_g0 G _) rfl 6 (by decide) zm_f_X10_36 rfl dX10_fill_57 ?_
      refine lv_iload C.1 C.2.1 dX10_fill_60 (lv_at hl 4 rfl) ?_
      refine lv_iadd C.1 C.2.1 dX10_fill_62 ?_
      refine lv_iload_n C.1 C.2.1 dX10_fill_63 rfl (lv_at hl 1 rfl) ?_
      refine lv_iload C.1 C.2.1 dX10_fill_64 (lv_at hl 4 rfl) ?_
      refine lv_iload_n C.1 C.2.1 dX10_fill_66 rfl (lv_at hl 2 rfl) ?_
      refine lv_imul C.1 C.2.1 dX10_fill_67 ?_
      refine lv_iadd C.1 C.2.1 dX10_fill_68 ?_
      refine lv_i2s C.1 C.2.1 dX10_fill_69 rfl ?_
      refine zr_iast C w 1 (zw_g1 G _) (zw_s1 G _) dX10_fill_70 h (fun S1 H locs w h => ?_)
      obtain ⟨v2, e_, h⟩ := zc_lt_x h
      refine lv_iinc (v := v2) (lv' := [(4, .int v2), (0, .ref (zg_q G 0)), (1, .int f1), (2, .int f2), (3, .int f3)]) C.1 C.2.1 dX10_fill_71 hl (k := 4) rfl (by subst e_; rfl) (by decide) rfl (fun ls hl => ?_)
      clear e_
      refine lv_goto (tgt := 46) C.1 C.2.1 dX10_fill_74 (by decide) ?_
      exact ih _ _ h _ _ _ w (lv_sub hl [1, 2, 3, 4, 0] rfl)
set_option maxHeartbeats 4000000 in
set_option maxRecDepth 100000 in
theorem zm_X10_fill (l : Launch) (hst : l.stackTraces = false) (G : zg_T) (S : zs_T) (a1 : Int32) (a2 : Int32) (a3 : Int32) (k r : Int32) (S1 : zs_T) (h : zf_X10_fill S a1 a2 a3 = some (k, r, S1)) : vx_Met l yX10_fill (Cond.code yX10_fill cX10_fill 5 (some .int) :: zt_G) zr_m_X10_fill (va_Pc [.ref (zg_q G 0), .int a1, .int a2, .int a3] (zg_P G S)) (zx_Q G k (some (.int r)) S1) (zx_X G k S1) 1 6 (zg_A G) := by
  refine zx_metT (by decide +kernel) (Nat.le_of_ble_eq_true rfl) (lv := [(0, .ref (zg_q G 0)), (1, .int a1), (2, .int a2), (3, .int a3)]) rfl ?_
  intro p e s m below meth c C hr hx w ls hl
  replace C : zx_C p s m _ meth c G RX10 cX10_fill 5 := C
  unfold zf_X10_fill at h
  refine lv_iload_n C.1 C.2.1 dX10_fill_0 rfl (lv_at hl 3 rfl) ?_
  refine zr_if_lt (tgt := 11) C dX10_fill_1 (by decide) h (fun h => ?_) (fun h => ?_)
  · exact zr_thr1 C hx hst w (is := 55) (text := "n is 0 .. 160") (by decide +kernel) hl.1 dX10_fill_11 dX10_fill_14 dX10_fill_15 dX10_fill_17 dX10_fill_20 (by decide) (Nat.le_of_ble_eq_true rfl) (Nat.le_of_ble_eq_true rfl) (Nat.le_of_ble_eq_true rfl) h
  · refine lv_iload_n C.1 C.2.1 dX10_fill_4 rfl (lv_at hl 3 rfl) ?_
    refine lv_sipush (v := 160) C.1 C.2.1 dX10_fill_5 (by decide) ?_
    refine zr_ic_le (tgt := 21) C dX10_fill_8 (by decide) h (fun h => ?_) (fun h => ?_)
    · refine lv_aload_n C.1 C.2.1 dX10_fill_21 rfl (lv_at hl 0 rfl) ?_
      refine zr_get C w 0 zm_w_X10 (zw_g0 G _) rfl 6 (by decide) zm_f_X10_36 rfl dX10_fill_22 ?_
      refine lv_iload_n C.1 C.2.1 dX10_fill_25 rfl (lv_at hl 3 rfl) ?_
      refine lv_iadd C.1 C.2.1 dX10_fill_26 ?_
      refine lv_sipush (v := 160) C.1 C.2.1 dX10_fill_27 (by decide) ?_
      refine zr_ic_le (tgt := 43) C dX10_fill_30 (by decide) h (fun h => ?_) (fun h => ?_)
      · refine lv_iconst (v := 0) C.1 C.2.1 dX10_fill_43 (by decide) ?_
        refine lv_istore (lv' := [(4, .int (0 : Int32)), (0, .ref (zg_q G 0)), (1, .int a1), (2, .int a2), (3, .int a3)]) C.1 C.2.1 dX10_fill_44 hl (by decide) rfl (fun ls hl => ?_)
        obtain ⟨S3, hc, h⟩ := zc_b1_x h
        refine zk_X10_fill_46 C a1 a2 a3 S3 (fun H locs ls w hl => ?_) _ _ _ hc _ _ _ w (lv_sub hl [1, 2, 3, 4, 0] rfl)
        clear hc
        refine lv_aload_n C.1 C.2.1 dX10_fill_77 rfl (lv_at hl 0 rfl) ?_
        refine lv_dup C.1 C.2.1 dX10_fill_78 rfl ?_
        refine zr_get C w 0 zm_w_X10 (zw_g0 G _) rfl 6 (by decide) zm_f_X10_36 rfl dX10_fill_79 ?_
        refine lv_iload_n C.1 C.2.1 dX10_fill_82 rfl (lv_at hl 1 rfl) ?_
        refine lv_iadd C.1 C.2.1 dX10_fill_83 ?_
        refine zr_put C w 0 zm_w_X10 tyX10 tyX10_ok nmX10 (zw_g0 G _) rfl 6 (by decide) zm_f_X10_36 rfl (ty := .int) (by decide +kernel) rfl rfl (Nat.le_of_ble_eq_true rfl) (zw_f0_6 G _ _) dX10_fill_84 h (fun S4 H locs w h => ?_)
        refine lv_aload_n C.1 C.2.1 dX10_fill_87 rfl (lv_at hl 0 rfl) ?_
        refine zr_get C w 0 zm_w_X10 (zw_g0 G _) rfl 6 (by decide) zm_f_X10_36 rfl dX10_fill_88 ?_
        exact zr_xreti C w hr dX10_fill_91 h
      · exact zr_thr2 C hx hst w (is := 57) (text := "there would be more than 160 samples") (by decide +kernel) hl.1 dX10_fill_33 dX10_fill_36 dX10_fill_37 dX10_fill_39 dX10_fill_42 (by decide) (Nat.le_of_ble_eq_true rfl) (Nat.le_of_ble_eq_true rfl) (Nat.le_of_ble_eq_true rfl) h
    · exact zr_thr1 C hx hst w (is := 55) (text := "n is 0 .. 160") (by decide +kernel) hl.1 dX10_fill_11 dX10_fill_14 dX10_fill_15 dX10_fill_17 dX10_fill_20 (by decide) (Nat.le_of_ble_eq_true rfl) (Nat.le_of_ble_eq_true rfl) (Nat.le_of_ble_eq_true rfl) h
set_option maxHeartbeats 4000000 in
set_option maxRecDepth 100000 in
theorem zm_X10_encode (l : Launch) (hst : l.stackTraces = false) (G : zg_T) (S : zs_T) (k r : Int32) (S1 : zs_T) (h : zf_X10_encode S = some (k, r, S1)) : vx_Met l yX10_encode (Cond.code yX10_encode cX10_encode 1 (some .int) :: zt_G) zr_m_X10_encode (va_Pc [.ref (zg_q G 0)] (zg_P G S)) (zx_Q G k (some (.int r)) S1) (zx_X G k S1) 1 6 (zg_A G) := by
  refine zx_metT (by decide +kernel) (Nat.le_of_ble_eq_true rfl) (lv := [(0, .ref (zg_q G 0))]) rfl ?_
  intro p e s m below meth c C hr hx w ls hl
  replace C : zx_C p s m _ meth c G RX10 cX10_encode 1 := C
  unfold zf_X10_encode at h
  refine lv_aload_n C.1 C.2.1 dX10_encode_0 rfl (lv_at hl 0 rfl) ?_
  refine zr_get C w 0 zm_w_X10 (zw_g0 G _) rfl 6 (by decide) zm_f_X10_36 rfl dX10_encode_1 ?_
  refine lv_sipush (v := 160) C.1 C.2.1 dX10_encode_4 (by decide) ?_
  refine zr_ic_eq (tgt := 20) C dX10_encode_7 (by decide) h (fun h => ?_) (fun h => ?_)
  · refine lv_aload_n C.1 C.2.1 dX10_encode_20 rfl (lv_at hl 0 rfl) ?_
    refine zr_get C w 0 zm_w_X10 (zw_g0 G _) rfl 4 (by decide) zm_f_X10_25 rfl dX10_encode_21 ?_
    refine lv_aload_n C.1 C.2.1 dX10_encode_24 rfl (lv_at hl 0 rfl) ?_
    refine zr_get C w 0 zm_w_X10 (zw_g0 G _) rfl 0 (by decide) zm_f_X10_9 rfl dX10_encode_25 ?_
    refine lv_aload_n C.1 C.2.1 dX10_encode_28 rfl (lv_at hl 0 rfl) ?_
    refine zr_get C w 0 zm_w_X10 (zw_g0 G _) rfl 2 (by decide) zm_f_X10_16 rfl dX10_encode_29 ?_
    obtain ⟨S1, hc, h⟩ := zc_b1_x h
    refine zr_callVv C w 5 (zw_g5 G _) rfl (As := [.ref (zg_q G 1), .ref (zg_q G 3)]) (zm_X1_describe l G _ _ hc) zm_c_X1_describe zm_l_X10_61 zm_i_X1_describe zm_e_X1_describe zm_0_X1 zm_d_X1_describe ⟨rfl, rfl⟩ ⟨Nat.le_of_ble_eq_true rfl, Nat.le_of_ble_eq_true rfl⟩ hl.1 rfl rfl (Nat.le_of_ble_eq_true rfl) dX10_encode_32 ⟨Nat.le_of_ble_eq_true rfl, Nat.le_of_ble_eq_true rfl⟩ (fun H locs w => ?_)
    clear hc
    refine lv_aload_n C.1 C.2.1 dX10_encode_35 rfl (lv_at hl 0 rfl) ?_
    refine lv_iconst (v := 0) C.1 C.2.1 dX10_encode_36 (by decide) ?_
    refine zr_put C w 0 zm_w_X10 tyX10 tyX10_ok nmX10 (zw_g0 G _) rfl 6 (by decide) zm_f_X10_36 rfl (ty := .int) (by decide +kernel) rfl rfl (Nat.le_of_ble_eq_true rfl) (zw_f0_6 G _ _) dX10_encode_37 h (fun S2 H locs w h => ?_)
    refine lv_aload_n C.1 C.2.1 dX10_encode_40 rfl (lv_at hl 0 rfl) ?_
    refine zr_get C w 0 zm_w_X10 (zw_g0 G _) rfl 4 (by decide) zm_f_X10_25 rfl dX10_encode_41 ?_
    refine zr_getN C w 5 zm_w_X1 (zw_g5 G _) rfl 9 (by decide) zm_n_X10_65 rfl dX10_encode_44 ?_
    exact zr_xreti C w hr dX10_encode_47 h
  · exact zr_thr2 C hx hst w (is := 59) (text := "there are not 160 samples") (by decide +kernel) hl.1 dX10_encode_10 dX10_encode_13 dX10_encode_14 dX10_encode_16 dX10_encode_19 (by decide) (Nat.le_of_ble_eq_true rfl) (Nat.le_of_ble_eq_true rfl) (Nat.le_of_ble_eq_true rfl) h
set_option maxHeartbeats 4000000 in
set_option maxRecDepth 100000 in
theorem zm_X10_parameter (l : Launch) (hst : l.stackTraces = false) (G : zg_T) (S : zs_T) (a1 : Int32) (k r : Int32) (S1 : zs_T) (h : zf_X10_parameter S a1 = some (k, r, S1)) : vx_Met l yX10_parameter (Cond.code yX10_parameter cX10_parameter 2 (some .int) :: zt_G) zr_m_X10_parameter (va_Pc [.ref (zg_q G 0), .int a1] (zg_P G S)) (zx_Q G k (some (.int r)) S1) (zx_X G k S1) 1 6 (zg_A G) := by
  refine zx_metT (by decide +kernel) (Nat.le_of_ble_eq_true rfl) (lv := [(0, .ref (zg_q G 0)), (1, .int a1)]) rfl ?_
  intro p e s m below meth c C hr hx w ls hl
  replace C : zx_C p s m _ meth c G RX10 cX10_parameter 2 := C
  unfold zf_X10_parameter at h
  refine lv_iload_n C.1 C.2.1 dX10_parameter_0 rfl (lv_at hl 1 rfl) ?_
  refine zr_if_lt (tgt := 10) C dX10_parameter_1 (by decide) h (fun h => ?_) (fun h => ?_)
  · exact zr_thr1 C hx hst w (is := 68) (text := "i is 0 .. 75") (by decide +kernel) hl.1 dX10_parameter_10 dX10_parameter_13 dX10_parameter_14 dX10_parameter_16 dX10_parameter_19 (by decide) (Nat.le_of_ble_eq_true rfl) (Nat.le_of_ble_eq_true rfl) (Nat.le_of_ble_eq_true rfl) h
  · refine lv_iload_n C.1 C.2.1 dX10_parameter_4 rfl (lv_at hl 1 rfl) ?_
    refine lv_bipush (v := 76) C.1 C.2.1 dX10_parameter_5 (by decide) ?_
    refine zr_ic_lt (tgt := 20) C dX10_parameter_7 (by decide) h (fun h => ?_) (fun h => ?_)
    · refine lv_aload_n C.1 C.2.1 dX10_parameter_20 rfl (lv_at hl 0 rfl) ?_
      refine zr_get C w 0 zm_w_X10 (zw_g0 G _) rfl 2 (by decide) zm_f_X10_16 rfl dX10_parameter_21 ?_
      refine lv_iload_n C.1 C.2.1 dX10_parameter_24 rfl (lv_at hl 1 rfl) ?_
      refine zr_iald C w 3 (zw_g3 G _) dX10_parameter_25 h (fun h => ?_)
      exact zr_xreti C w hr dX10_parameter_26 h
    · exact zr_thr1 C hx hst w (is := 68) (text := "i is 0 .. 75") (by decide +kernel) hl.1 dX10_parameter_10 dX10_parameter_13 dX10_parameter_14 dX10_parameter_16 dX10_parameter_19 (by decide) (Nat.le_of_ble_eq_true rfl) (Nat.le_of_ble_eq_true rfl) (Nat.le_of_ble_eq_true rfl) h
set_option maxHeartbeats 4000000 in
set_option maxRecDepth 100000 in
theorem zk_X10_feed_44 {p : Program} {l : Launch} {e : Env} {s : State} {m : MethodId} {args : Array Value} {below : List Frame} {meth : Method} {c : Code} {G : zg_T} {Q : State → Prop} (C : zx_C p s m args meth c G RX10 cX10_feed 5) (f1 : Int64) (f3 : Int32) (oS : zs_T) (kont : ∀ (H : Heap) (locs : List Loc) (ls : Array Slot), zg_W G oS s H locs → lv_has ls 5 [(0, .ref (zg_q G 0)), (3, .int f3)] → W p l e zr_m_X10_feed s m args below meth c H locs 0 0 Q (F0 m 80 ls [])) : ∀ (n : Nat) (S : zs_T) (x4 : Int32), zl_2 (zb_X10_feed_44 f1 f3) n S x4 = some oS → ∀ (H : Heap) (locs : List Loc) (ls : Array Slot), zg_W G S s H locs → lv_has ls 5 [(0, .ref (zg_q G 0)), (1, .long f1), (3, .int f3), (4, .int x4)] → W p l e zr_m_X10_feed s m args below meth c H locs 0 0 Q (F0 m 44 ls []) := by
  intro n
  induction n with
  | zero => intro S x4 h; cases h
  | succ n ih =>
    intro S x4 h H locs ls w hl
    replace h : zb_X10_feed_44 f1 f3 (zl_2 (zb_X10_feed_44 f1 f3) n) S x4 = some oS := h
    generalize zl_2 (zb_X10_feed_44 f1 f3) n = rec at ih h
    unfold zb_X10_feed_44 at h
    refine lv_iload C.1 C.2.1 dX10_feed_44 (lv_at hl 3 rfl) ?_
    refine lv_iload_n C.1 C.2.1 dX10_feed_46 rfl (lv_at hl 2 rfl) ?_
    refine zr_ic_ge (tgt := 80) C dX10_feed_47 (by decide) h (fun h => ?_) (fun h => ?_)
    · cases h
      exact kont _ _ _ w (lv_sub hl [0, 2] rfl)
    · refine lv_aload_n C.1 C.2.1 dX10_feed_50 rfl (lv_at hl 0 rfl) ?_
      refine zr_get C w 0 zm_w_X10 (zw_g0 G _) rfl 1 (by decide) zm_f_X10_13 rfl dX10_feed_51 ?_
      refine lv_aload_n C.1 C.2.1 dX10_feed_54 rfl (lv_at hl 0 rfl) ?_
      refine zr_get C w 0 zm_w_X10 (zw_g0 G _) rfl 7 (by decide) zm_f_X10_40 rfl dX10_feed_55 ?_
      refine lv_iload C.1 C.2.1 dX10_feed_58 (lv_at hl 3 rfl) ?_
      refine lv_iadd C.1 C.2.1 dX10_feed_60 ?_
      refine lv_lload_n C.1 C.2.1 dX10_feed_61 rfl (lv_at hl 1 rfl) ?_
      refine lv_bipush (v := 8) C.1 C.2.1 dX10_feed_62 (by decide) ?_
      refine lv_iload C.1 C.2.1 dX10_feed_64 (lv_at hl 3 rfl) ?_
      refine lv_imul C.1 C.2.1 dX10_feed_66 ?_
      refine lv_lshr C.1 C.2.1 dX10_feed_67 rfl ?_
      refine lv_l2i C.1 C.2.1 dX10_feed_68 rfl ?_
      refine lv_sipush (v := 255) C.1 C.2.1 dX10_feed_69 (by decide) ?_
      refine lv_iand C.1 C.2.1 dX10_feed_72 ?_
      refine zr_iast C w 2 (zw_g2 G _) (zw_s2 G _) dX10_feed_73 h (fun S1 H locs w h => ?_)
      obtain ⟨v2, e_, h⟩ := zc_lt_x h
      refine lv_iinc (v := v2) (lv' := [(4, .int v2), (0, .ref (zg_q G 0)), (1, .long f1), (3, .int f3)]) C.1 C.2.1 dX10_feed_74 hl (k := 3) rfl (by subst e_; rfl) (by decide) rfl (fun ls hl => ?_)
      clear e_
      refine lv_goto (tgt := 44) C.1 C.2.1 dX10_feed_77 (by decide) ?_
      exact ih _ _ h _ _ _ w (lv_sub hl [1, 2, 3, 0] rfl)
set_option maxHeartbeats 4000000 in
set_option maxRecDepth 100000 in
theorem zm_X10_feed (l : Launch) (hst : l.stackTraces = false) (G : zg_T) (S : zs_T) (a1 : Int64) (a2 : Int32) (k r : Int32) (S1 : zs_T) (h : zf_X10_feed S a1 a2 = some (k, r, S1)) : vx_Met l yX10_feed (Cond.code yX10_feed cX10_feed 5 (some .int) :: zt_G) zr_m_X10_feed (va_Pc [.ref (zg_q G 0), .long a1, .int a2] (zg_P G S)) (zx_Q G k (some (.int r)) S1) (zx_X G k S1) 1 6 (zg_A G) := by
  refine zx_metT (by decide +kernel) (Nat.le_of_ble_eq_true rfl) (lv := [(0, .ref (zg_q G 0)), (1, .long a1), (3, .int a2)]) rfl ?_
  intro p e s m below meth c C hr hx w ls hl
  replace C : zx_C p s m _ meth c G RX10 cX10_feed 5 := C
  unfold zf_X10_feed at h
  refine lv_iload_n C.1 C.2.1 dX10_feed_0 rfl (lv_at hl 2 rfl) ?_
  refine zr_if_lt (tgt := 10) C dX10_feed_1 (by decide) h (fun h => ?_) (fun h => ?_)
  · exact zr_thr1 C hx hst w (is := 70) (text := "n is 0 .. 8") (by decide +kernel) hl.1 dX10_feed_10 dX10_feed_13 dX10_feed_14 dX10_feed_16 dX10_feed_19 (by decide) (Nat.le_of_ble_eq_true rfl) (Nat.le_of_ble_eq_true rfl) (Nat.le_of_ble_eq_true rfl) h
  · refine lv_iload_n C.1 C.2.1 dX10_feed_4 rfl (lv_at hl 2 rfl) ?_
    refine lv_bipush (v := 8) C.1 C.2.1 dX10_feed_5 (by decide) ?_
    refine zr_ic_le (tgt := 20) C dX10_feed_7 (by decide) h (fun h => ?_) (fun h => ?_)
    · refine lv_aload_n C.1 C.2.1 dX10_feed_20 rfl (lv_at hl 0 rfl) ?_
      refine zr_get C w 0 zm_w_X10 (zw_g0 G _) rfl 7 (by decide) zm_f_X10_40 rfl dX10_feed_21 ?_
      refine lv_iload_n C.1 C.2.1 dX10_feed_24 rfl (lv_at hl 2 rfl) ?_
      refine lv_iadd C.1 C.2.1 dX10_feed_25 ?_
      refine lv_bipush (v := 33) C.1 C.2.1 dX10_feed_26 (by decide) ?_
      refine zr_ic_le (tgt := 41) C dX10_feed_28 (by decide) h (fun h => ?_) (fun h => ?_)
      · refine lv_iconst (v := 0) C.1 C.2.1 dX10_feed_41 (by decide) ?_
        refine lv_istore (lv' := [(4, .int (0 : Int32)), (0, .ref (zg_q G 0)), (1, .long a1), (3, .int a2)]) C.1 C.2.1 dX10_feed_42 hl (by decide) rfl (fun ls hl => ?_)
        obtain ⟨S3, hc, h⟩ := zc_b1_x h
        refine zk_X10_feed_44 C a1 a2 S3 (fun H locs ls w hl => ?_) _ _ _ hc _ _ _ w (lv_sub hl [1, 2, 3, 0] rfl)
        clear hc
        refine lv_aload_n C.1 C.2.1 dX10_feed_80 rfl (lv_at hl 0 rfl) ?_
        refine lv_dup C.1 C.2.1 dX10_feed_81 rfl ?_
        refine zr_get C w 0 zm_w_X10 (zw_g0 G _) rfl 7 (by decide) zm_f_X10_40 rfl dX10_feed_82 ?_
        refine lv_iload_n C.1 C.2.1 dX10_feed_85 rfl (lv_at hl 1 rfl) ?_
        refine lv_iadd C.1 C.2.1 dX10_feed_86 ?_
        refine zr_put C w 0 zm_w_X10 tyX10 tyX10_ok nmX10 (zw_g0 G _) rfl 7 (by decide) zm_f_X10_40 rfl (ty := .int) (by decide +kernel) rfl rfl (Nat.le_of_ble_eq_true rfl) (zw_f0_7 G _ _) dX10_feed_87 h (fun S4 H locs w h => ?_)
        refine lv_aload_n C.1 C.2.1 dX10_feed_90 rfl (lv_at hl 0 rfl) ?_
        refine zr_get C w 0 zm_w_X10 (zw_g0 G _) rfl 7 (by decide) zm_f_X10_40 rfl dX10_feed_91 ?_
        exact zr_xreti C w hr dX10_feed_94 h
      · exact zr_thr2 C hx hst w (is := 72) (text := "there would be more than 33 bytes") (by decide +kernel) hl.1 dX10_feed_31 dX10_feed_34 dX10_feed_35 dX10_feed_37 dX10_feed_40 (by decide) (Nat.le_of_ble_eq_true rfl) (Nat.le_of_ble_eq_true rfl) (Nat.le_of_ble_eq_true rfl) h
    · exact zr_thr1 C hx hst w (is := 70) (text := "n is 0 .. 8") (by decide +kernel) hl.1 dX10_feed_10 dX10_feed_13 dX10_feed_14 dX10_feed_16 dX10_feed_19 (by decide) (Nat.le_of_ble_eq_true rfl) (Nat.le_of_ble_eq_true rfl) (Nat.le_of_ble_eq_true rfl) h
set_option maxHeartbeats 4000000 in
set_option maxRecDepth 100000 in
theorem zm_X10_sample (l : Launch) (hst : l.stackTraces = false) (G : zg_T) (S : zs_T) (a1 : Int32) (k r : Int32) (S1 : zs_T) (h : zf_X10_sample S a1 = some (k, r, S1)) : vx_Met l yX10_sample (Cond.code yX10_sample cX10_sample 2 (some .int) :: zt_G) zr_m_X10_sample (va_Pc [.ref (zg_q G 0), .int a1] (zg_P G S)) (zx_Q G k (some (.int r)) S1) (zx_X G k S1) 1 6 (zg_A G) := by
  refine zx_metT (by decide +kernel) (Nat.le_of_ble_eq_true rfl) (lv := [(0, .ref (zg_q G 0)), (1, .int a1)]) rfl ?_
  intro p e s m below meth c C hr hx w ls hl
  replace C : zx_C p s m _ meth c G RX10 cX10_sample 2 := C
  unfold zf_X10_sample at h
  refine lv_iload_n C.1 C.2.1 dX10_sample_0 rfl (lv_at hl 1 rfl) ?_
  refine zr_if_lt (tgt := 11) C dX10_sample_1 (by decide) h (fun h => ?_) (fun h => ?_)
  · exact zr_thr1 C hx hst w (is := 84) (text := "i is 0 .. 159") (by decide +kernel) hl.1 dX10_sample_11 dX10_sample_14 dX10_sample_15 dX10_sample_17 dX10_sample_20 (by decide) (Nat.le_of_ble_eq_true rfl) (Nat.le_of_ble_eq_true rfl) (Nat.le_of_ble_eq_true rfl) h
  · refine lv_iload_n C.1 C.2.1 dX10_sample_4 rfl (lv_at hl 1 rfl) ?_
    refine lv_sipush (v := 160) C.1 C.2.1 dX10_sample_5 (by decide) ?_
    refine zr_ic_lt (tgt := 21) C dX10_sample_8 (by decide) h (fun h => ?_) (fun h => ?_)
    · refine lv_aload_n C.1 C.2.1 dX10_sample_21 rfl (lv_at hl 0 rfl) ?_
      refine zr_get C w 0 zm_w_X10 (zw_g0 G _) rfl 3 (by decide) zm_f_X10_19 rfl dX10_sample_22 ?_
      refine lv_iload_n C.1 C.2.1 dX10_sample_25 rfl (lv_at hl 1 rfl) ?_
      refine zr_iald C w 4 (zw_g4 G _) dX10_sample_26 h (fun h => ?_)
      exact zr_xreti C w hr dX10_sample_27 h
    · exact zr_thr1 C hx hst w (is := 84) (text := "i is 0 .. 159") (by decide +kernel) hl.1 dX10_sample_11 dX10_sample_14 dX10_sample_15 dX10_sample_17 dX10_sample_20 (by decide) (Nat.le_of_ble_eq_true rfl) (Nat.le_of_ble_eq_true rfl) (Nat.le_of_ble_eq_true rfl) h
set_option maxHeartbeats 4000000 in
set_option maxRecDepth 100000 in
theorem zq_X10_reset_42 {p : Program} {l : Launch} {e : Env} {s : State} {m : MethodId} {args : Array Value} {below : List Frame} {meth : Method} {c : Code} {G : zg_T} (hr : meth.sig.returnType = none) (C : zx_C p s m args meth c G RX10 cX10_reset 2) (hx : ∀ x ∈ c.exceptionTable.toList, False) (hst : l.stackTraces = false) (k r : Int32) (S1 : zs_T) (S : zs_T) (y1 : Int32) (h : zj_X10_reset_42 S y1 = some (k, r, S1)) (H : Heap) (locs : List Loc) (ls : Array Slot) (w : zg_W G S s H locs) (hl : lv_has ls 2 [(0, .ref (zg_q G 0)), (1, .int y1)]) : W p l e zr_m_X10_reset s m args below meth c H locs 0 0 (vx_MQ below (zx_Q G k none S1) (zx_X G k S1) args s 1 6 (zg_A G)) (F0 m 42 ls []) := by
  unfold zj_X10_reset_42 at h
  refine lv_iload_n C.1 C.2.1 dX10_reset_42 rfl (lv_at hl 1 rfl) ?_
  refine lv_iconst (v := 2) C.1 C.2.1 dX10_reset_43 (by decide) ?_
  refine zr_ic_ne (tgt := 73) C dX10_reset_44 (by decide) h (fun h => ?_) (fun h => ?_)
  · exact zr_xretv C w hr dX10_reset_73 h
  · refine lv_aload_n C.1 C.2.1 dX10_reset_47 rfl (lv_at hl 0 rfl) ?_
    refine lv_iconst (v := 0) C.1 C.2.1 dX10_reset_48 (by decide) ?_
    refine zr_put C w 0 zm_w_X10 tyX10 tyX10_ok nmX10 (zw_g0 G _) rfl 6 (by decide) zm_f_X10_36 rfl (ty := .int) (by decide +kernel) rfl rfl (Nat.le_of_ble_eq_true rfl) (zw_f0_6 G _ _) dX10_reset_49 h (fun S1 H locs w h => ?_)
    refine lv_aload_n C.1 C.2.1 dX10_reset_52 rfl (lv_at hl 0 rfl) ?_
    refine lv_iconst (v := 0) C.1 C.2.1 dX10_reset_53 (by decide) ?_
    refine zr_put C w 0 zm_w_X10 tyX10 tyX10_ok nmX10 (zw_g0 G _) rfl 7 (by decide) zm_f_X10_40 rfl (ty := .int) (by decide +kernel) rfl rfl (Nat.le_of_ble_eq_true rfl) (zw_f0_7 G _ _) dX10_reset_54 h (fun S2 H locs w h => ?_)
    refine lv_aload_n C.1 C.2.1 dX10_reset_57 rfl (lv_at hl 0 rfl) ?_
    refine zr_get C w 0 zm_w_X10 (zw_g0 G _) rfl 2 (by decide) zm_f_X10_16 rfl dX10_reset_58 ?_
    refine lv_iconst (v := 0) C.1 C.2.1 dX10_reset_61 (by decide) ?_
    obtain ⟨S3, hc, h⟩ := zc_b1_x h
    refine zr_callSv C w (As := [.ref (zg_q G 3), .int (0 : Int32)]) (zm_J7_fill_53178_3 l G _ _ _ hc) zm_c_J7_fill_53178 zm_l_X10_92 zm_s_J7_fill_53178 zm_0_J7 zm_d_J7_fill_53178 ⟨rfl, rfl⟩ ⟨Nat.le_of_ble_eq_true rfl, Nat.le_of_ble_eq_true rfl⟩ hl.1 rfl rfl (Nat.le_of_ble_eq_true rfl) dX10_reset_62 ⟨Nat.le_of_ble_eq_true rfl, Nat.le_of_ble_eq_true rfl⟩ (fun H locs w => ?_)
    clear hc
    refine lv_aload_n C.1 C.2.1 dX10_reset_65 rfl (lv_at hl 0 rfl) ?_
    refine zr_get C w 0 zm_w_X10 (zw_g0 G _) rfl 3 (by decide) zm_f_X10_19 rfl dX10_reset_66 ?_
    refine lv_iconst (v := 0) C.1 C.2.1 dX10_reset_69 (by decide) ?_
    obtain ⟨S4, hc, h⟩ := zc_b1_x h
    refine zr_callSv C w (As := [.ref (zg_q G 4), .int (0 : Int32)]) (zm_J7_fill_53178_4 l G _ _ _ hc) zm_c_J7_fill_53178 zm_l_X10_92 zm_s_J7_fill_53178 zm_0_J7 zm_d_J7_fill_53178 ⟨rfl, rfl⟩ ⟨Nat.le_of_ble_eq_true rfl, Nat.le_of_ble_eq_true rfl⟩ hl.1 rfl rfl (Nat.le_of_ble_eq_true rfl) dX10_reset_70 ⟨Nat.le_of_ble_eq_true rfl, Nat.le_of_ble_eq_true rfl⟩ (fun H locs w => ?_)
    clear hc
    exact zr_xretv C w hr dX10_reset_73 h
set_option maxHeartbeats 4000000 in
set_option maxRecDepth 100000 in
theorem zq_X10_reset_31 {p : Program} {l : Launch} {e : Env} {s : State} {m : MethodId} {args : Array Value} {below : List Frame} {meth : Method} {c : Code} {G : zg_T} (hr : meth.sig.returnType = none) (C : zx_C p s m args meth c G RX10 cX10_reset 2) (hx : ∀ x ∈ c.exceptionTable.toList, False) (hst : l.stackTraces = false) (k r : Int32) (S1 : zs_T) (S : zs_T) (y1 : Int32) (h : zj_X10_reset_31 S y1 = some (k, r, S1)) (H : Heap) (locs : List Loc) (ls : Array Slot) (w : zg_W G S s H locs) (hl : lv_has ls 2 [(0, .ref (zg_q G 0)), (1, .int y1)]) : W p l e zr_m_X10_reset s m args below meth c H locs 0 0 (vx_MQ below (zx_Q G k none S1) (zx_X G k S1) args s 1 6 (zg_A G)) (F0 m 31 ls []) := by
  unfold zj_X10_reset_31 at h
  refine lv_iload_n C.1 C.2.1 dX10_reset_31 rfl (lv_at hl 1 rfl) ?_
  refine zr_if_eq (tgt := 42) C dX10_reset_32 (by decide) h (fun h => ?_) (fun h => ?_)
  · exact zq_X10_reset_42 hr C hx hst _ _ _ _ _ h _ _ _ w (lv_sub hl [0, 1] rfl)
  · refine lv_aload_n C.1 C.2.1 dX10_reset_35 rfl (lv_at hl 0 rfl) ?_
    refine zr_get C w 0 zm_w_X10 (zw_g0 G _) rfl 5 (by decide) zm_f_X10_32 rfl dX10_reset_36 ?_
    obtain ⟨S5, hc, h⟩ := zc_b1_x h
    refine zr_callVv C w 29 (zw_g29 G _) rfl (As := []) (zm_X0_forget l G _ _ hc) zm_c_X0_forget zm_l_X10_91 zm_i_X0_forget zm_e_X0_forget zm_0_X0 zm_d_X0_forget ⟨rfl, rfl⟩ ⟨Nat.le_of_ble_eq_true rfl, Nat.le_of_ble_eq_true rfl⟩ hl.1 rfl rfl (Nat.le_of_ble_eq_true rfl) dX10_reset_39 ⟨Nat.le_of_ble_eq_true rfl, Nat.le_of_ble_eq_true rfl⟩ (fun H locs w => ?_)
    clear hc
    exact zq_X10_reset_42 hr C hx hst _ _ _ _ _ h _ _ _ w (lv_sub hl [0, 1] rfl)
set_option maxHeartbeats 4000000 in
set_option maxRecDepth 100000 in
theorem zm_X10_reset (l : Launch) (hst : l.stackTraces = false) (G : zg_T) (S : zs_T) (a1 : Int32) (k r : Int32) (S1 : zs_T) (h : zf_X10_reset S a1 = some (k, r, S1)) : vx_Met l yX10_reset (Cond.code yX10_reset cX10_reset 2 none :: zt_G) zr_m_X10_reset (va_Pc [.ref (zg_q G 0), .int a1] (zg_P G S)) (zx_Q G k none S1) (zx_X G k S1) 1 6 (zg_A G) := by
  refine zx_metT (by decide +kernel) (Nat.le_of_ble_eq_true rfl) (lv := [(0, .ref (zg_q G 0)), (1, .int a1)]) rfl ?_
  intro p e s m below meth c C hr hx w ls hl
  replace C : zx_C p s m _ meth c G RX10 cX10_reset 2 := C
  unfold zf_X10_reset at h
  refine lv_iload_n C.1 C.2.1 dX10_reset_0 rfl (lv_at hl 1 rfl) ?_
  refine zr_if_lt (tgt := 9) C dX10_reset_1 (by decide) h (fun h => ?_) (fun h => ?_)
  · exact zr_thr1 C hx hst w (is := 86) (text := "what is 0 .. 2") (by decide +kernel) hl.1 dX10_reset_9 dX10_reset_12 dX10_reset_13 dX10_reset_15 dX10_reset_18 (by decide) (Nat.le_of_ble_eq_true rfl) (Nat.le_of_ble_eq_true rfl) (Nat.le_of_ble_eq_true rfl) h
  · refine lv_iload_n C.1 C.2.1 dX10_reset_4 rfl (lv_at hl 1 rfl) ?_
    refine lv_iconst (v := 2) C.1 C.2.1 dX10_reset_5 (by decide) ?_
    refine zr_ic_le (tgt := 19) C dX10_reset_6 (by decide) h (fun h => ?_) (fun h => ?_)
    · refine lv_iload_n C.1 C.2.1 dX10_reset_19 rfl (lv_at hl 1 rfl) ?_
      refine lv_iconst (v := 1) C.1 C.2.1 dX10_reset_20 (by decide) ?_
      refine zr_ic_eq (tgt := 31) C dX10_reset_21 (by decide) h (fun h => ?_) (fun h => ?_)
      · exact zq_X10_reset_31 hr C hx hst _ _ _ _ _ h _ _ _ w (lv_sub hl [0, 1] rfl)
      · refine lv_aload_n C.1 C.2.1 dX10_reset_24 rfl (lv_at hl 0 rfl) ?_
        refine zr_get C w 0 zm_w_X10 (zw_g0 G _) rfl 4 (by decide) zm_f_X10_25 rfl dX10_reset_25 ?_
        obtain ⟨S6, hc, h⟩ := zc_b1_x h
        refine zr_callVv C w 5 (zw_g5 G _) rfl (As := []) (zm_X1_forget l G _ _ hc) zm_c_X1_forget zm_l_X10_88 zm_i_X1_forget zm_e_X1_forget zm_0_X1 zm_d_X1_forget ⟨rfl, rfl⟩ ⟨Nat.le_of_ble_eq_true rfl, Nat.le_of_ble_eq_true rfl⟩ hl.1 rfl rfl (Nat.le_of_ble_eq_true rfl) dX10_reset_28 ⟨Nat.le_of_ble_eq_true rfl, Nat.le_of_ble_eq_true rfl⟩ (fun H locs w => ?_)
        clear hc
        exact zq_X10_reset_31 hr C hx hst _ _ _ _ _ h _ _ _ w (lv_sub hl [0, 1] rfl)
    · exact zr_thr1 C hx hst w (is := 86) (text := "what is 0 .. 2") (by decide +kernel) hl.1 dX10_reset_9 dX10_reset_12 dX10_reset_13 dX10_reset_15 dX10_reset_18 (by decide) (Nat.le_of_ble_eq_true rfl) (Nat.le_of_ble_eq_true rfl) (Nat.le_of_ble_eq_true rfl) h
set_option maxHeartbeats 4000000 in
set_option maxRecDepth 100000 in
theorem zm_X10_state (l : Launch) (hst : l.stackTraces = false) (G : zg_T) (S : zs_T) (a1 : Int32) (a2 : Int32) (k r : Int32) (S1 : zs_T) (h : zf_X10_state S a1 a2 = some (k, r, S1)) : vx_Met l yX10_state (Cond.code yX10_state cX10_state 3 (some .int) :: zt_G) zr_m_X10_state (va_Pc [.ref (zg_q G 0), .int a1, .int a2] (zg_P G S)) (zx_Q G k (some (.int r)) S1) (zx_X G k S1) 1 6 (zg_A G) := by
  refine zx_metT (by decide +kernel) (Nat.le_of_ble_eq_true rfl) (lv := [(0, .ref (zg_q G 0)), (1, .int a1), (2, .int a2)]) rfl ?_
  intro p e s m below meth c C hr hx w ls hl
  replace C : zx_C p s m _ meth c G RX10 cX10_state 3 := C
  unfold zf_X10_state at h
  refine lv_iload_n C.1 C.2.1 dX10_state_0 rfl (lv_at hl 2 rfl) ?_
  refine zr_if_lt (tgt := 12) C dX10_state_1 (by decide) h (fun h => ?_) (fun h => ?_)
  · exact zr_thr1 C hx hst w (is := 102) (text := "there is no such cell of the state") (by decide +kernel) hl.1 dX10_state_12 dX10_state_15 dX10_state_16 dX10_state_18 dX10_state_21 (by decide) (Nat.le_of_ble_eq_true rfl) (Nat.le_of_ble_eq_true rfl) (Nat.le_of_ble_eq_true rfl) h
  · refine lv_iload_n C.1 C.2.1 dX10_state_4 rfl (lv_at hl 2 rfl) ?_
    refine lv_iload_n C.1 C.2.1 dX10_state_5 rfl (lv_at hl 1 rfl) ?_
    refine zr_callSi C w (As := [.int a1]) (zm_X10_stateCells l G _ _ _ rfl) zm_c_X10_stateCells zm_l_X10_98 zm_s_X10_stateCells zm_0_X10 zm_d_X10_stateCells ⟨rfl, rfl⟩ ⟨Nat.le_of_ble_eq_true rfl, Nat.le_of_ble_eq_true rfl⟩ hl.1 rfl rfl (Nat.le_of_ble_eq_true rfl) dX10_state_6 ⟨Nat.le_of_ble_eq_true rfl, Nat.le_of_ble_eq_true rfl⟩ (fun H locs w => ?_)
    refine zr_lti h (fun v1 h => ?_)
    refine zr_ic_lt (tgt := 22) C dX10_state_9 (by decide) h (fun h => ?_) (fun h => ?_)
    · refine lv_iload_n C.1 C.2.1 dX10_state_22 rfl (lv_at hl 1 rfl) ?_
      by_cases c0 : a1 = (0 : Int32)
      · replace h := (if_pos c0).symm.trans h
        refine lv_tableIn (tgt := 64) C.1 C.2.1 dX10_state_23 (by rw [c0]; decide) (by rw [c0]; decide) (by rw [c0]; rfl) (by decide) ?_
        refine lv_aload_n C.1 C.2.1 dX10_state_64 rfl (lv_at hl 0 rfl) ?_
        refine zr_get C w 0 zm_w_X10 (zw_g0 G _) rfl 4 (by decide) zm_f_X10_25 rfl dX10_state_65 ?_
        refine zr_getN C w 5 zm_w_X1 (zw_g5 G _) rfl 2 (by decide) zm_n_X10_104 rfl dX10_state_68 ?_
        refine zr_getN C w 15 zm_w_X2 (zw_g15 G _) rfl 0 (by decide) zm_n_X10_108 rfl dX10_state_71 ?_
        refine lv_iload_n C.1 C.2.1 dX10_state_74 rfl (lv_at hl 2 rfl) ?_
        refine zr_iald C w 16 (zw_g16 G _) dX10_state_75 h (fun h => ?_)
        exact zr_xreti C w hr dX10_state_76 h
      replace h := (if_neg c0).symm.trans h
      by_cases c1 : a1 = (1 : Int32)
      · replace h := (if_pos c1).symm.trans h
        refine lv_tableIn (tgt := 77) C.1 C.2.1 dX10_state_23 (by rw [c1]; decide) (by rw [c1]; decide) (by rw [c1]; rfl) (by decide) ?_
        refine lv_aload_n C.1 C.2.1 dX10_state_77 rfl (lv_at hl 0 rfl) ?_
        refine zr_get C w 0 zm_w_X10 (zw_g0 G _) rfl 5 (by decide) zm_f_X10_32 rfl dX10_state_78 ?_
        refine zr_getN C w 29 zm_w_X0 (zw_g29 G _) rfl 0 (by decide) zm_n_X10_113 rfl dX10_state_81 ?_
        refine zr_getN C w 31 zm_w_X2 (zw_g31 G _) rfl 0 (by decide) zm_n_X10_108 rfl dX10_state_84 ?_
        refine lv_iload_n C.1 C.2.1 dX10_state_87 rfl (lv_at hl 2 rfl) ?_
        refine zr_iald C w 32 (zw_g32 G _) dX10_state_88 h (fun h => ?_)
        exact zr_xreti C w hr dX10_state_89 h
      replace h := (if_neg c1).symm.trans h
      by_cases c2 : a1 = (2 : Int32)
      · replace h := (if_pos c2).symm.trans h
        refine lv_tableIn (tgt := 90) C.1 C.2.1 dX10_state_23 (by rw [c2]; decide) (by rw [c2]; decide) (by rw [c2]; rfl) (by decide) ?_
        refine lv_aload_n C.1 C.2.1 dX10_state_90 rfl (lv_at hl 0 rfl) ?_
        refine zr_get C w 0 zm_w_X10 (zw_g0 G _) rfl 4 (by decide) zm_f_X10_25 rfl dX10_state_91 ?_
        refine zr_getN C w 5 zm_w_X1 (zw_g5 G _) rfl 3 (by decide) zm_n_X10_114 rfl dX10_state_94 ?_
        refine zr_getN C w 19 zm_w_X5 (zw_g19 G _) rfl 0 (by decide) zm_n_X10_118 rfl dX10_state_97 ?_
        refine lv_iload_n C.1 C.2.1 dX10_state_100 rfl (lv_at hl 2 rfl) ?_
        refine zr_iald C w 20 (zw_g20 G _) dX10_state_101 h (fun h => ?_)
        exact zr_xreti C w hr dX10_state_102 h
      replace h := (if_neg c2).symm.trans h
      by_cases c3 : a1 = (3 : Int32)
      · replace h := (if_pos c3).symm.trans h
        refine lv_tableIn (tgt := 103) C.1 C.2.1 dX10_state_23 (by rw [c3]; decide) (by rw [c3]; decide) (by rw [c3]; rfl) (by decide) ?_
        refine lv_aload_n C.1 C.2.1 dX10_state_103 rfl (lv_at hl 0 rfl) ?_
        refine zr_get C w 0 zm_w_X10 (zw_g0 G _) rfl 5 (by decide) zm_f_X10_32 rfl dX10_state_104 ?_
        refine zr_getN C w 29 zm_w_X0 (zw_g29 G _) rfl 1 (by decide) zm_n_X10_123 rfl dX10_state_107 ?_
        refine zr_getN C w 35 zm_w_X5 (zw_g35 G _) rfl 0 (by decide) zm_n_X10_118 rfl dX10_state_110 ?_
        refine lv_iload_n C.1 C.2.1 dX10_state_113 rfl (lv_at hl 2 rfl) ?_
        refine zr_iald C w 36 (zw_g36 G _) dX10_state_114 h (fun h => ?_)
        exact zr_xreti C w hr dX10_state_115 h
      replace h := (if_neg c3).symm.trans h
      by_cases c4 : a1 = (4 : Int32)
      · replace h := (if_pos c4).symm.trans h
        refine lv_tableIn (tgt := 116) C.1 C.2.1 dX10_state_23 (by rw [c4]; decide) (by rw [c4]; decide) (by rw [c4]; rfl) (by decide) ?_
        refine lv_aload_n C.1 C.2.1 dX10_state_116 rfl (lv_at hl 0 rfl) ?_
        refine zr_get C w 0 zm_w_X10 (zw_g0 G _) rfl 4 (by decide) zm_f_X10_25 rfl dX10_state_117 ?_
        refine zr_getN C w 5 zm_w_X1 (zw_g5 G _) rfl 8 (by decide) zm_n_X10_124 rfl dX10_state_120 ?_
        refine lv_iload_n C.1 C.2.1 dX10_state_123 rfl (lv_at hl 2 rfl) ?_
        refine zr_iald C w 7 (zw_g7 G _) dX10_state_124 h (fun h => ?_)
        exact zr_xreti C w hr dX10_state_125 h
      replace h := (if_neg c4).symm.trans h
      by_cases c5 : a1 = (5 : Int32)
      · replace h := (if_pos c5).symm.trans h
        refine lv_tableIn (tgt := 126) C.1 C.2.1 dX10_state_23 (by rw [c5]; decide) (by rw [c5]; decide) (by rw [c5]; rfl) (by decide) ?_
        refine lv_aload_n C.1 C.2.1 dX10_state_126 rfl (lv_at hl 0 rfl) ?_
        refine zr_get C w 0 zm_w_X10 (zw_g0 G _) rfl 5 (by decide) zm_f_X10_32 rfl dX10_state_127 ?_
        refine zr_getN C w 29 zm_w_X0 (zw_g29 G _) rfl 3 (by decide) zm_n_X10_127 rfl dX10_state_130 ?_
        refine lv_iload_n C.1 C.2.1 dX10_state_133 rfl (lv_at hl 2 rfl) ?_
        refine zr_iald C w 30 (zw_g30 G _) dX10_state_134 h (fun h => ?_)
        exact zr_xreti C w hr dX10_state_135 h
      replace h := (if_neg c5).symm.trans h
      by_cases c6 : a1 = (6 : Int32)
      · replace h := (if_pos c6).symm.trans h
        refine lv_tableIn (tgt := 136) C.1 C.2.1 dX10_state_23 (by rw [c6]; decide) (by rw [c6]; decide) (by rw [c6]; rfl) (by decide) ?_
        refine lv_aload_n C.1 C.2.1 dX10_state_136 rfl (lv_at hl 0 rfl) ?_
        refine zr_get C w 0 zm_w_X10 (zw_g0 G _) rfl 4 (by decide) zm_f_X10_25 rfl dX10_state_137 ?_
        refine zr_getN C w 5 zm_w_X1 (zw_g5 G _) rfl 0 (by decide) zm_n_X10_130 rfl dX10_state_140 ?_
        refine lv_iload_n C.1 C.2.1 dX10_state_143 rfl (lv_at hl 2 rfl) ?_
        obtain ⟨v2, hc, h⟩ := zc_b1_x h
        refine zr_callVi C w 8 (zw_g8 G _) rfl (As := [.int a2]) (zm_X3_goingOn l G _ _ _ hc) zm_c_X3_goingOn zm_l_X10_134 zm_i_X3_goingOn zm_e_X3_goingOn zm_0_X3 zm_d_X3_goingOn ⟨rfl, rfl⟩ ⟨Nat.le_of_ble_eq_true rfl, Nat.le_of_ble_eq_true rfl⟩ hl.1 rfl rfl (Nat.le_of_ble_eq_true rfl) dX10_state_144 ⟨Nat.le_of_ble_eq_true rfl, Nat.le_of_ble_eq_true rfl⟩ (fun H locs w => ?_)
        clear hc
        exact zr_xreti C w hr dX10_state_147 h
      replace h := (if_neg c6).symm.trans h
      refine lv_tableOut (tgt := 148) C.1 C.2.1 dX10_state_23 (by have q0 := lv_neT (a := 0) c0 rfl; have q1 := lv_neT (a := 1) c1 rfl; have q2 := lv_neT (a := 2) c2 rfl; have q3 := lv_neT (a := 3) c3 rfl; have q4 := lv_neT (a := 4) c4 rfl; have q5 := lv_neT (a := 5) c5 rfl; have q6 := lv_neT (a := 6) c6 rfl; omega) (by decide) ?_
      refine lv_iload_n C.1 C.2.1 dX10_state_148 rfl (lv_at hl 2 rfl) ?_
      refine zr_if_ne (tgt := 162) C dX10_state_149 (by decide) h (fun h => ?_) (fun h => ?_)
      · refine lv_aload_n C.1 C.2.1 dX10_state_162 rfl (lv_at hl 0 rfl) ?_
        refine zr_get C w 0 zm_w_X10 (zw_g0 G _) rfl 5 (by decide) zm_f_X10_32 rfl dX10_state_163 ?_
        refine zr_getN C w 29 zm_w_X0 (zw_g29 G _) rfl 5 (by decide) zm_n_X10_142 rfl dX10_state_166 ?_
        exact zr_xreti C w hr dX10_state_169 h
      · refine lv_aload_n C.1 C.2.1 dX10_state_152 rfl (lv_at hl 0 rfl) ?_
        refine zr_get C w 0 zm_w_X10 (zw_g0 G _) rfl 5 (by decide) zm_f_X10_32 rfl dX10_state_153 ?_
        refine zr_getN C w 29 zm_w_X0 (zw_g29 G _) rfl 4 (by decide) zm_n_X10_139 rfl dX10_state_156 ?_
        refine lv_goto (tgt := 169) C.1 C.2.1 dX10_state_159 (by decide) ?_
        exact zr_xreti C w hr dX10_state_169 h
    · exact zr_thr1 C hx hst w (is := 102) (text := "there is no such cell of the state") (by decide +kernel) hl.1 dX10_state_12 dX10_state_15 dX10_state_16 dX10_state_18 dX10_state_21 (by decide) (Nat.le_of_ble_eq_true rfl) (Nat.le_of_ble_eq_true rfl) (Nat.le_of_ble_eq_true rfl) h
set_option maxHeartbeats 4000000 in
set_option maxRecDepth 100000 in
theorem zm_X10_about (l : Launch) (hst : l.stackTraces = false) (G : zg_T) (S : zs_T) (a1 : Int32) (k r : Int32) (S1 : zs_T) (h : zf_X10_about S a1 = some (k, r, S1)) : vx_Met l yX10_about (Cond.code yX10_about cX10_about 2 (some .int) :: zt_G) zr_m_X10_about (va_Pc [.ref (zg_q G 0), .int a1] (zg_P G S)) (zx_Q G k (some (.int r)) S1) (zx_X G k S1) 1 6 (zg_A G) := by
  refine zx_metT (by decide +kernel) (Nat.le_of_ble_eq_true rfl) (lv := [(0, .ref (zg_q G 0)), (1, .int a1)]) rfl ?_
  intro p e s m below meth c C hr hx w ls hl
  replace C : zx_C p s m _ meth c G RX10 cX10_about 2 := C
  unfold zf_X10_about at h
  refine lv_iload_n C.1 C.2.1 dX10_about_0 rfl (lv_at hl 1 rfl) ?_
  by_cases c0 : a1 = (0 : Int32)
  · replace h := (if_pos c0).symm.trans h
    refine lv_tableIn (tgt := 32) C.1 C.2.1 dX10_about_1 (by rw [c0]; decide) (by rw [c0]; decide) (by rw [c0]; rfl) (by decide) ?_
    refine lv_aload_n C.1 C.2.1 dX10_about_32 rfl (lv_at hl 0 rfl) ?_
    refine zr_get C w 0 zm_w_X10 (zw_g0 G _) rfl 6 (by decide) zm_f_X10_36 rfl dX10_about_33 ?_
    exact zr_xreti C w hr dX10_about_36 h
  replace h := (if_neg c0).symm.trans h
  by_cases c1 : a1 = (1 : Int32)
  · replace h := (if_pos c1).symm.trans h
    refine lv_tableIn (tgt := 37) C.1 C.2.1 dX10_about_1 (by rw [c1]; decide) (by rw [c1]; decide) (by rw [c1]; rfl) (by decide) ?_
    refine lv_aload_n C.1 C.2.1 dX10_about_37 rfl (lv_at hl 0 rfl) ?_
    refine zr_get C w 0 zm_w_X10 (zw_g0 G _) rfl 7 (by decide) zm_f_X10_40 rfl dX10_about_38 ?_
    exact zr_xreti C w hr dX10_about_41 h
  replace h := (if_neg c1).symm.trans h
  by_cases c2 : a1 = (2 : Int32)
  · replace h := (if_pos c2).symm.trans h
    refine lv_tableIn (tgt := 42) C.1 C.2.1 dX10_about_1 (by rw [c2]; decide) (by rw [c2]; decide) (by rw [c2]; rfl) (by decide) ?_
    refine lv_aload_n C.1 C.2.1 dX10_about_42 rfl (lv_at hl 0 rfl) ?_
    refine zr_get C w 0 zm_w_X10 (zw_g0 G _) rfl 4 (by decide) zm_f_X10_25 rfl dX10_about_43 ?_
    refine zr_getN C w 5 zm_w_X1 (zw_g5 G _) rfl 9 (by decide) zm_n_X10_65 rfl dX10_about_46 ?_
    exact zr_xreti C w hr dX10_about_49 h
  replace h := (if_neg c2).symm.trans h
  by_cases c3 : a1 = (3 : Int32)
  · replace h := (if_pos c3).symm.trans h
    refine lv_tableIn (tgt := 50) C.1 C.2.1 dX10_about_1 (by rw [c3]; decide) (by rw [c3]; decide) (by rw [c3]; rfl) (by decide) ?_
    refine lv_aload_n C.1 C.2.1 dX10_about_50 rfl (lv_at hl 0 rfl) ?_
    refine zr_get C w 0 zm_w_X10 (zw_g0 G _) rfl 5 (by decide) zm_f_X10_32 rfl dX10_about_51 ?_
    refine zr_getN C w 29 zm_w_X0 (zw_g29 G _) rfl 6 (by decide) zm_n_X10_83 rfl dX10_about_54 ?_
    exact zr_xreti C w hr dX10_about_57 h
  replace h := (if_neg c3).symm.trans h
  refine lv_tableOut (tgt := 58) C.1 C.2.1 dX10_about_1 (by have q0 := lv_neT (a := 0) c0 rfl; have q1 := lv_neT (a := 1) c1 rfl; have q2 := lv_neT (a := 2) c2 rfl; have q3 := lv_neT (a := 3) c3 rfl; omega) (by decide) ?_
  exact zr_thr1 C hx hst w (is := 145) (text := "what is 0 .. 3") (by decide +kernel) hl.1 dX10_about_58 dX10_about_61 dX10_about_62 dX10_about_64 dX10_about_67 (by decide) (Nat.le_of_ble_eq_true rfl) (Nat.le_of_ble_eq_true rfl) (Nat.le_of_ble_eq_true rfl) h
set_option maxHeartbeats 4000000 in
set_option maxRecDepth 100000 in
theorem zm_X11_thrown (l : Launch) (G : zg_T) (S : zs_T) (r : Int32) (h : zf_X11_thrown S = some r) : Met l yX11_thrown (Cond.code yX11_thrown cX11_thrown 1 (some .int) :: zt_G) zr_m_X11_thrown (va_Pc [.ref (zg_q G 40)] (zg_P G S)) (zg_Q G (some (.int r)) S) 0 0 (zg_A G) := by
  refine zx_met (by decide +kernel) (Nat.le_of_ble_eq_true rfl) (lv := [(0, .ref (zg_q G 40))]) rfl ?_
  intro p e s m below meth c C hr w ls hl
  replace C : zx_C p s m _ meth c G RX11 cX11_thrown 1 := C
  unfold zf_X11_thrown at h
  refine lv_aload_n C.1 C.2.1 dX11_thrown_0 rfl (lv_at hl 0 rfl) ?_
  refine zr_get C w 40 zm_w_X11 (zw_g40 G _) rfl 0 (by decide) zm_f_X11_69 rfl dX11_thrown_1 ?_
  exact zr_reti C w hr dX11_thrown_4 (Option.some.inj h) rfl
set_option maxHeartbeats 4000000 in
set_option maxRecDepth 100000 in
theorem zm_X11_refuses (l : Launch) (G : zg_T) (S : zs_T) (a1 : Int32) (r : Int32) (S1 : zs_T) (h : zf_X11_refuses S a1 = some (r, S1)) : Met l yX11_refuses (Cond.code yX11_refuses cX11_refuses 2 (some .boolean) :: zt_G) zr_m_X11_refuses (va_Pc [.ref (zg_q G 40), .int a1] (zg_P G S)) (zg_Q G (some (.int r)) S1) 0 0 (zg_A G) := by
  refine zx_met (by decide +kernel) (Nat.le_of_ble_eq_true rfl) (lv := [(0, .ref (zg_q G 40)), (1, .int a1)]) rfl ?_
  intro p e s m below meth c C hr w ls hl
  replace C : zx_C p s m _ meth c G RX11 cX11_refuses 2 := C
  unfold zf_X11_refuses at h
  refine lv_aload_n C.1 C.2.1 dX11_refuses_0 rfl (lv_at hl 0 rfl) ?_
  refine lv_iload_n C.1 C.2.1 dX11_refuses_1 rfl (lv_at hl 1 rfl) ?_
  refine zr_put C w 40 zm_w_X11 tyX11 tyX11_ok nmX11 (zw_g40 G _) rfl 0 (by decide) zm_f_X11_69 rfl (ty := .int) (by decide +kernel) rfl rfl (Nat.le_of_ble_eq_true rfl) (zw_f40_0 G _ _) dX11_refuses_2 h (fun S1 H locs w h => ?_)
  refine lv_iload_n C.1 C.2.1 dX11_refuses_5 rfl (lv_at hl 1 rfl) ?_
  refine zr_if_le (tgt := 13) C dX11_refuses_6 (by decide) h (fun h => ?_) (fun h => ?_)
  · refine lv_iconst (v := 0) C.1 C.2.1 dX11_refuses_13 (by decide) ?_
    exact zr_retz C w hr dX11_refuses_14 rfl (congrArg Prod.fst (Option.some.inj h)) (congrArg Prod.snd (Option.some.inj h))
  · refine lv_iconst (v := 1) C.1 C.2.1 dX11_refuses_9 (by decide) ?_
    refine lv_goto (tgt := 14) C.1 C.2.1 dX11_refuses_10 (by decide) ?_
    exact zr_retz C w hr dX11_refuses_14 rfl (congrArg Prod.fst (Option.some.inj h)) (congrArg Prod.snd (Option.some.inj h))
set_option maxHeartbeats 4000000 in
set_option maxRecDepth 100000 in
theorem zq_X11_put_34 {p : Program} {l : Launch} {e : Env} {s : State} {m : MethodId} {args : Array Value} {below : List Frame} {meth : Method} {c : Code} {G : zg_T} (hr : meth.sig.returnType = (some .int)) (C : zx_C p s m args meth c G RX11 cX11_put 2) (r : Int32) (S1 : zs_T) (S : zs_T) (y1 : Int32) (z0 : Int32) (h : zj_X11_put_34 S y1 z0 = some (r, S1)) (H : Heap) (locs : List Loc) (ls : Array Slot) (w : zg_W G S s H locs) (hl : lv_has ls 2 [(0, .ref (zg_q G 40)), (1, .int y1)]) : W p l e zr_m_X11_put s m args below meth c H locs 0 0 (MQ below (zg_Q G (some (.int r)) S1) args s 0 0 (zg_A G)) (F0 m 34 ls [.int z0, .ref (zg_q G 40)]) := by
  unfold zj_X11_put_34 at h
  obtain ⟨v1, S2, hc, h⟩ := zc_b2_x h
  refine zr_callVi C w 40 (zw_g40 G _) rfl (As := [.int z0]) (zm_X11_refuses l G _ _ _ _ hc) zm_c_X11_refuses zm_l_X11_91 zm_i_X11_refuses zm_e_X11_refuses zm_0_X11 zm_d_X11_refuses ⟨rfl, rfl⟩ ⟨Nat.le_of_ble_eq_true rfl, Nat.le_of_ble_eq_true rfl⟩ hl.1 rfl rfl (Nat.le_of_ble_eq_true rfl) dX11_put_34 ⟨Nat.le_of_ble_eq_true rfl, Nat.le_of_ble_eq_true rfl⟩ (fun H locs w => ?_)
  clear hc
  refine zr_if_eq (tgt := 42) C dX11_put_37 (by decide) h (fun h => ?_) (fun h => ?_)
  · refine lv_aload_n C.1 C.2.1 dX11_put_42 rfl (lv_at hl 0 rfl) ?_
    refine zr_get C w 40 zm_w_X11 (zw_g40 G _) rfl 2 (by decide) zm_f_X11_7 rfl dX11_put_43 ?_
    refine lv_aload_n C.1 C.2.1 dX11_put_46 rfl (lv_at hl 0 rfl) ?_
    refine zr_get C w 40 zm_w_X11 (zw_g40 G _) rfl 1 (by decide) zm_f_X11_88 rfl dX11_put_47 ?_
    refine lv_iload_n C.1 C.2.1 dX11_put_50 rfl (lv_at hl 1 rfl) ?_
    refine lv_i2l C.1 C.2.1 dX11_put_51 rfl ?_
    refine zr_last C w 41 (zw_g41 G _) (zw_s41 G _) dX11_put_52 h (fun S3 H locs w h => ?_)
    refine lv_aload_n C.1 C.2.1 dX11_put_53 rfl (lv_at hl 0 rfl) ?_
    refine lv_dup C.1 C.2.1 dX11_put_54 rfl ?_
    refine zr_get C w 40 zm_w_X11 (zw_g40 G _) rfl 1 (by decide) zm_f_X11_88 rfl dX11_put_55 ?_
    refine lv_iconst (v := 1) C.1 C.2.1 dX11_put_58 (by decide) ?_
    refine lv_iadd C.1 C.2.1 dX11_put_59 ?_
    refine zr_put C w 40 zm_w_X11 tyX11 tyX11_ok nmX11 (zw_g40 G _) rfl 1 (by decide) zm_f_X11_88 rfl (ty := .int) (by decide +kernel) rfl rfl (Nat.le_of_ble_eq_true rfl) (zw_f40_1 G _ _) dX11_put_60 h (fun S4 H locs w h => ?_)
    refine lv_aload_n C.1 C.2.1 dX11_put_63 rfl (lv_at hl 0 rfl) ?_
    refine zr_get C w 40 zm_w_X11 (zw_g40 G _) rfl 1 (by decide) zm_f_X11_88 rfl dX11_put_64 ?_
    exact zr_reti C w hr dX11_put_67 (congrArg Prod.fst (Option.some.inj h)) (congrArg Prod.snd (Option.some.inj h))
  · refine lv_iconst (v := 0) C.1 C.2.1 dX11_put_40 (by decide) ?_
    exact zr_reti C w hr dX11_put_41 (congrArg Prod.fst (Option.some.inj h)) (congrArg Prod.snd (Option.some.inj h))
set_option maxHeartbeats 4000000 in
set_option maxRecDepth 100000 in
theorem zq_X11_put_15 {p : Program} {l : Launch} {e : Env} {s : State} {m : MethodId} {args : Array Value} {below : List Frame} {meth : Method} {c : Code} {G : zg_T} (hr : meth.sig.returnType = (some .int)) (C : zx_C p s m args meth c G RX11 cX11_put 2) (r : Int32) (S1 : zs_T) (S : zs_T) (y1 : Int32) (h : zj_X11_put_15 S y1 = some (r, S1)) (H : Heap) (locs : List Loc) (ls : Array Slot) (w : zg_W G S s H locs) (hl : lv_has ls 2 [(0, .ref (zg_q G 40)), (1, .int y1)]) : W p l e zr_m_X11_put s m args below meth c H locs 0 0 (MQ below (zg_Q G (some (.int r)) S1) args s 0 0 (zg_A G)) (F0 m 15 ls [.ref (zg_q G 40)]) := by
  unfold zj_X11_put_15 at h
  refine lv_iconst (v := 1) C.1 C.2.1 dX11_put_15 (by decide) ?_
  refine lv_goto (tgt := 34) C.1 C.2.1 dX11_put_16 (by decide) ?_
  exact zq_X11_put_34 hr C _ _ _ _ _ h _ _ _ w (lv_sub hl [0, 1] rfl)
set_option maxHeartbeats 4000000 in
set_option maxRecDepth 100000 in
theorem zm_X11_put (l : Launch) (G : zg_T) (S : zs_T) (a1 : Int32) (r : Int32) (S1 : zs_T) (h : zf_X11_put S a1 = some (r, S1)) : Met l yX11_put (Cond.code yX11_put cX11_put 2 (some .int) :: zt_G) zr_m_X11_put (va_Pc [.ref (zg_q G 40), .int a1] (zg_P G S)) (zg_Q G (some (.int r)) S1) 0 0 (zg_A G) := by
  refine zx_met (by decide +kernel) (Nat.le_of_ble_eq_true rfl) (lv := [(0, .ref (zg_q G 40)), (1, .int a1)]) rfl ?_
  intro p e s m below meth c C hr w ls hl
  replace C : zx_C p s m _ meth c G RX11 cX11_put 2 := C
  unfold zf_X11_put at h
  refine lv_aload_n C.1 C.2.1 dX11_put_0 rfl (lv_at hl 0 rfl) ?_
  refine lv_iload_n C.1 C.2.1 dX11_put_1 rfl (lv_at hl 1 rfl) ?_
  refine lv_sipush (v := -32768) C.1 C.2.1 dX11_put_2 (by decide) ?_
  refine zr_ic_lt (tgt := 15) C dX11_put_5 (by decide) h (fun h => ?_) (fun h => ?_)
  · exact zq_X11_put_15 hr C _ _ _ _ h _ _ _ w (lv_sub hl [0, 1] rfl)
  · refine lv_iload_n C.1 C.2.1 dX11_put_8 rfl (lv_at hl 1 rfl) ?_
    refine lv_sipush (v := 32767) C.1 C.2.1 dX11_put_9 (by decide) ?_
    refine zr_ic_le (tgt := 19) C dX11_put_12 (by decide) h (fun h => ?_) (fun h => ?_)
    · refine lv_aload_n C.1 C.2.1 dX11_put_19 rfl (lv_at hl 0 rfl) ?_
      refine zr_get C w 40 zm_w_X11 (zw_g40 G _) rfl 1 (by decide) zm_f_X11_88 rfl dX11_put_20 ?_
      refine lv_sipush (v := 160) C.1 C.2.1 dX11_put_23 (by decide) ?_
      refine zr_ic_ne (tgt := 33) C dX11_put_26 (by decide) h (fun h => ?_) (fun h => ?_)
      · refine lv_iconst (v := 0) C.1 C.2.1 dX11_put_33 (by decide) ?_
        exact zq_X11_put_34 hr C _ _ _ _ _ h _ _ _ w (lv_sub hl [0, 1] rfl)
      · refine lv_iconst (v := 2) C.1 C.2.1 dX11_put_29 (by decide) ?_
        refine lv_goto (tgt := 34) C.1 C.2.1 dX11_put_30 (by decide) ?_
        exact zq_X11_put_34 hr C _ _ _ _ _ h _ _ _ w (lv_sub hl [0, 1] rfl)
    · exact zq_X11_put_15 hr C _ _ _ _ h _ _ _ w (lv_sub hl [0, 1] rfl)
