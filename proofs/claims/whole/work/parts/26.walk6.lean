set_option maxHeartbeats 4000000 in
set_option maxRecDepth 100000 in
theorem zk_X11_keepsG_2 {p : Program} {l : Launch} {e : Env} {s : State} {m : MethodId} {args : Array Value} {below : List Frame} {meth : Method} {c : Code} {G : zg_T} {Q : State → Prop} (C : zx_C p s m args meth c G RX11 cX11_keepsG 3) (f1 : Int32) (oS : zs_T) (kont : ∀ (H : Heap) (locs : List Loc) (ls : Array Slot), zg_W G oS s H locs → lv_has ls 3 [] → W p l e zr_m_X11_keepsG s m args below meth c H locs 0 0 Q (F0 m 28 ls [])) : ∀ (n : Nat) (S : zs_T) (x2 : Int32), zl_2 (zb_X11_keepsG_2 f1) n S x2 = some oS → ∀ (H : Heap) (locs : List Loc) (ls : Array Slot), zg_W G S s H locs → lv_has ls 3 [(0, .ref (zg_q G 40)), (1, .int f1), (2, .int x2)] → W p l e zr_m_X11_keepsG s m args below meth c H locs 0 0 Q (F0 m 2 ls []) := by
  intro n
  induction n with
  | zero => intro S x2 h; cases h
  | succ n ih =>
    intro S x2 h H locs ls w hl
    replace h : zb_X11_keepsG_2 f1 (zl_2 (zb_X11_keepsG_2 f1) n) S x2 = some oS := h
    generalize zl_2 (zb_X11_keepsG_2 f1) n = rec at ih h
    unfold zb_X11_keepsG_2 at h
    refine lv_iload_n C.1 C.2.1 dX11_keepsG_2 rfl (lv_at hl 2 rfl) ?_
    refine lv_bipush (v := 8) C.1 C.2.1 dX11_keepsG_3 (by decide) ?_
    refine zr_ic_ge (tgt := 28) C dX11_keepsG_5 (by decide) h (fun h => ?_) (fun h => ?_)
    · cases h
      exact kont _ _ _ w (lv_sub hl [] rfl)
    · refine lv_aload_n C.1 C.2.1 dX11_keepsG_8 rfl (lv_at hl 0 rfl) ?_
      refine zr_get C w 40 zm_w_X11 (zw_g40 G _) rfl 12 (by decide) zm_f_X11_23 rfl dX11_keepsG_9 ?_
      refine lv_iload_n C.1 C.2.1 dX11_keepsG_12 rfl (lv_at hl 1 rfl) ?_
      refine lv_iload_n C.1 C.2.1 dX11_keepsG_13 rfl (lv_at hl 2 rfl) ?_
      refine lv_iadd C.1 C.2.1 dX11_keepsG_14 ?_
      refine lv_aload_n C.1 C.2.1 dX11_keepsG_15 rfl (lv_at hl 0 rfl) ?_
      refine zr_get C w 40 zm_w_X11 (zw_g40 G _) rfl 26 (by decide) zm_f_X11_63 rfl dX11_keepsG_16 ?_
      refine lv_iload_n C.1 C.2.1 dX11_keepsG_19 rfl (lv_at hl 2 rfl) ?_
      refine zr_lald C w 57 (zw_g57 G _) dX11_keepsG_20 h (fun h => ?_)
      refine zr_last C w 45 (zw_g45 G _) (zw_s45 G _) dX11_keepsG_21 h (fun S1 H locs w h => ?_)
      obtain ⟨v2, e_, h⟩ := zc_lt_x h
      refine lv_iinc (v := v2) (lv' := [(2, .int v2), (0, .ref (zg_q G 40)), (1, .int f1)]) C.1 C.2.1 dX11_keepsG_22 hl (k := 2) rfl (by subst e_; rfl) (by decide) rfl (fun ls hl => ?_)
      clear e_
      refine lv_goto (tgt := 2) C.1 C.2.1 dX11_keepsG_25 (by decide) ?_
      exact ih _ _ h _ _ _ w (lv_sub hl [1, 2, 0] rfl)
set_option maxHeartbeats 4000000 in
set_option maxRecDepth 100000 in
theorem zm_X11_keepsG (l : Launch) (G : zg_T) (S : zs_T) (a1 : Int32) (S1 : zs_T) (h : zf_X11_keepsG S a1 = some S1) : Met l yX11_keepsG (Cond.code yX11_keepsG cX11_keepsG 3 none :: zt_G) zr_m_X11_keepsG (va_Pc [.ref (zg_q G 40), .int a1] (zg_P G S)) (zg_Q G none S1) 0 0 (zg_A G) := by
  refine zx_met (by decide +kernel) (Nat.le_of_ble_eq_true rfl) (lv := [(0, .ref (zg_q G 40)), (1, .int a1)]) rfl ?_
  intro p e s m below meth c C hr w ls hl
  replace C : zx_C p s m _ meth c G RX11 cX11_keepsG 3 := C
  unfold zf_X11_keepsG at h
  refine lv_iconst (v := 0) C.1 C.2.1 dX11_keepsG_0 (by decide) ?_
  refine lv_istore_n (lv' := [(2, .int (0 : Int32)), (0, .ref (zg_q G 40)), (1, .int a1)]) C.1 C.2.1 dX11_keepsG_1 rfl hl (by decide) rfl (fun ls hl => ?_)
  obtain ⟨S3, hc, h⟩ := zc_b1_x h
  refine zk_X11_keepsG_2 C a1 S3 (fun H locs ls w hl => ?_) _ _ _ hc _ _ _ w (lv_sub hl [1, 2, 0] rfl)
  clear hc
  exact zr_retv C w hr dX11_keepsG_28 (Option.some.inj h)
set_option maxHeartbeats 4000000 in
set_option maxRecDepth 100000 in
theorem zk_X11_greatest_5_50 {p : Program} {l : Launch} {e : Env} {s : State} {m : MethodId} {args : Array Value} {below : List Frame} {meth : Method} {c : Code} {G : zg_T} {Q : State → Prop} (C : zx_C p s m args meth c G RX11 cX11_greatest 6) (S : zs_T) (f1 : Int32) (f2 : Int32) (o3 : Int64) (kont : ∀ (H : Heap) (locs : List Loc) (ls : Array Slot), zg_W G S s H locs → lv_has ls 6 [(3, .long o3)] → W p l e zr_m_X11_greatest s m args below meth c H locs 0 0 Q (F0 m 43 ls [])) : ∀ (n : Nat) (x3 : Int64) (x5 : Int32), zl_2 (zb_X11_greatest_5 50 S f1 f2) n x3 x5 = some o3 → ∀ (H : Heap) (locs : List Loc) (ls : Array Slot), zg_W G S s H locs → lv_has ls 6 [(0, .ref (zg_q G 50)), (1, .int f1), (2, .int f2), (3, .long x3), (5, .int x5)] → W p l e zr_m_X11_greatest s m args below meth c H locs 0 0 Q (F0 m 5 ls []) := by
  intro n
  induction n with
  | zero => intro x3 x5 h; cases h
  | succ n ih =>
    intro x3 x5 h H locs ls w hl
    replace h : zb_X11_greatest_5 50 S f1 f2 (zl_2 (zb_X11_greatest_5 50 S f1 f2) n) x3 x5 = some o3 := h
    generalize zl_2 (zb_X11_greatest_5 50 S f1 f2) n = rec at ih h
    unfold zb_X11_greatest_5 at h
    refine lv_iload C.1 C.2.1 dX11_greatest_5 (lv_at hl 4 rfl) ?_
    refine lv_iload_n C.1 C.2.1 dX11_greatest_7 rfl (lv_at hl 1 rfl) ?_
    refine lv_iload_n C.1 C.2.1 dX11_greatest_8 rfl (lv_at hl 2 rfl) ?_
    refine lv_iadd C.1 C.2.1 dX11_greatest_9 ?_
    refine zr_ic_ge (tgt := 43) C dX11_greatest_10 (by decide) h (fun h => ?_) (fun h => ?_)
    · cases h
      exact kont _ _ _ w (lv_sub hl [3] rfl)
    · refine lv_aload_n C.1 C.2.1 dX11_greatest_13 rfl (lv_at hl 0 rfl) ?_
      refine lv_iload C.1 C.2.1 dX11_greatest_14 (lv_at hl 4 rfl) ?_
      refine zr_lald C w 50 (zw_g50 G _) dX11_greatest_16 h (fun h => ?_)
      refine zr_callSl C w (As := [.long (S.2 50 (Int32.toNatClampNeg x5))]) (zm_X11_size l G _ _ _ rfl) zm_c_X11_size zm_l_X11_124 zm_s_X11_size zm_0_X11 zm_d_X11_size ⟨rfl, rfl⟩ ⟨Nat.le_of_ble_eq_true rfl, Nat.le_of_ble_eq_true rfl⟩ hl.1 rfl rfl (Nat.le_of_ble_eq_true rfl) dX11_greatest_17 ⟨Nat.le_of_ble_eq_true rfl, Nat.le_of_ble_eq_true rfl⟩ (fun H locs w => ?_)
      refine zr_ltl h (fun v1 h => ?_)
      refine lv_lload_n C.1 C.2.1 dX11_greatest_20 rfl (lv_at hl 3 rfl) ?_
      refine zr_lc_le (tgt := 35) C dX11_greatest_21 dX11_greatest_22 (by decide) h (fun h => ?_) (fun h => ?_)
      · refine lv_lload_n C.1 C.2.1 dX11_greatest_35 rfl (lv_at hl 3 rfl) ?_
        refine lv_lstore_n (lv' := [(3, .long x3), (0, .ref (zg_q G 50)), (1, .int f1), (2, .int f2), (5, .int x5)]) C.1 C.2.1 dX11_greatest_36 rfl hl (by decide) rfl (fun ls hl => ?_)
        obtain ⟨v2, e_, h⟩ := zc_lt_x h
        refine lv_iinc (v := v2) (lv' := [(5, .int v2), (3, .long x3), (0, .ref (zg_q G 50)), (1, .int f1), (2, .int f2)]) C.1 C.2.1 dX11_greatest_37 hl (k := 4) rfl (by subst e_; rfl) (by decide) rfl (fun ls hl => ?_)
        clear e_
        refine lv_goto (tgt := 5) C.1 C.2.1 dX11_greatest_40 (by decide) ?_
        exact ih _ _ h _ _ _ w (lv_sub hl [2, 3, 4, 1, 0] rfl)
      · refine lv_aload_n C.1 C.2.1 dX11_greatest_25 rfl (lv_at hl 0 rfl) ?_
        refine lv_iload C.1 C.2.1 dX11_greatest_26 (lv_at hl 4 rfl) ?_
        refine zr_lald C w 50 (zw_g50 G _) dX11_greatest_28 h (fun h => ?_)
        refine zr_callSl C w (As := [.long (S.2 50 (Int32.toNatClampNeg x5))]) (zm_X11_size l G _ _ _ rfl) zm_c_X11_size zm_l_X11_124 zm_s_X11_size zm_0_X11 zm_d_X11_size ⟨rfl, rfl⟩ ⟨Nat.le_of_ble_eq_true rfl, Nat.le_of_ble_eq_true rfl⟩ hl.1 rfl rfl (Nat.le_of_ble_eq_true rfl) dX11_greatest_29 ⟨Nat.le_of_ble_eq_true rfl, Nat.le_of_ble_eq_true rfl⟩ (fun H locs w => ?_)
        refine zr_ltl h (fun v3 h => ?_)
        refine lv_goto (tgt := 36) C.1 C.2.1 dX11_greatest_32 (by decide) ?_
        refine lv_lstore_n (lv' := [(3, .long v3), (0, .ref (zg_q G 50)), (1, .int f1), (2, .int f2), (5, .int x5)]) C.1 C.2.1 dX11_greatest_36 rfl hl (by decide) rfl (fun ls hl => ?_)
        obtain ⟨v4, e_, h⟩ := zc_lt_x h
        refine lv_iinc (v := v4) (lv' := [(5, .int v4), (3, .long v3), (0, .ref (zg_q G 50)), (1, .int f1), (2, .int f2)]) C.1 C.2.1 dX11_greatest_37 hl (k := 4) rfl (by subst e_; rfl) (by decide) rfl (fun ls hl => ?_)
        clear e_
        refine lv_goto (tgt := 5) C.1 C.2.1 dX11_greatest_40 (by decide) ?_
        exact ih _ _ h _ _ _ w (lv_sub hl [2, 3, 4, 1, 0] rfl)
set_option maxHeartbeats 4000000 in
set_option maxRecDepth 100000 in
theorem zm_X11_greatest_50 (l : Launch) (G : zg_T) (S : zs_T) (a1 : Int32) (a2 : Int32) (r : Int64) (h : zf_X11_greatest 50 S a1 a2 = some r) : Met l yX11_greatest (Cond.code yX11_greatest cX11_greatest 6 (some .long) :: zt_G) zr_m_X11_greatest (va_Pc [.ref (zg_q G 50), .int a1, .int a2] (zg_P G S)) (zg_Q G (some (.long r)) S) 0 0 (zg_A G) := by
  refine zx_met (by decide +kernel) (Nat.le_of_ble_eq_true rfl) (lv := [(0, .ref (zg_q G 50)), (1, .int a1), (2, .int a2)]) rfl ?_
  intro p e s m below meth c C hr w ls hl
  replace C : zx_C p s m _ meth c G RX11 cX11_greatest 6 := C
  unfold zf_X11_greatest at h
  refine lv_lconst (v := 0) C.1 C.2.1 dX11_greatest_0 (by decide) ?_
  refine lv_lstore_n (lv' := [(3, .long (0 : Int64)), (0, .ref (zg_q G 50)), (1, .int a1), (2, .int a2)]) C.1 C.2.1 dX11_greatest_1 rfl hl (by decide) rfl (fun ls hl => ?_)
  refine lv_iload_n C.1 C.2.1 dX11_greatest_2 rfl (lv_at hl 2 rfl) ?_
  refine lv_istore (lv' := [(5, .int a1), (3, .long (0 : Int64)), (0, .ref (zg_q G 50)), (1, .int a1), (2, .int a2)]) C.1 C.2.1 dX11_greatest_3 hl (by decide) rfl (fun ls hl => ?_)
  obtain ⟨v5, hc, h⟩ := zc_b1_x h
  refine zk_X11_greatest_5_50 C _ a1 a2 v5 (fun H locs ls w hl => ?_) _ _ _ hc _ _ _ w (lv_sub hl [2, 3, 4, 1, 0] rfl)
  clear hc
  refine lv_lload_n C.1 C.2.1 dX11_greatest_43 rfl (lv_at hl 0 rfl) ?_
  exact zr_retl C w hr dX11_greatest_44 (Option.some.inj h) rfl
set_option maxHeartbeats 4000000 in
set_option maxRecDepth 100000 in
theorem zm_X11_tableD (l : Launch) (G : zg_T) (S : zs_T) (a1 : Int32) (r : Int32) (h : zf_X11_tableD a1 = r) : Met l yX11_tableD (Cond.code yX11_tableD cX11_tableD 1 (some .int) :: zt_G) zr_m_X11_tableD (va_Pc [.int a1] (zg_P G S)) (zg_Q G (some (.int r)) S) 0 0 (zg_A G) := by
  refine zx_met (by decide +kernel) (Nat.le_of_ble_eq_true rfl) (lv := [(0, .int a1)]) rfl ?_
  intro p e s m below meth c C hr w ls hl
  replace C : zx_C p s m _ meth c G RX11 cX11_tableD 1 := C
  unfold zf_X11_tableD at h
  refine lv_iload_n C.1 C.2.1 dX11_tableD_0 rfl (lv_at hl 0 rfl) ?_
  refine zr_if_ne (tgt := 10) C dX11_tableD_1 (by decide) h (fun h => ?_) (fun h => ?_)
  · refine lv_iload_n C.1 C.2.1 dX11_tableD_10 rfl (lv_at hl 0 rfl) ?_
    refine lv_iconst (v := 1) C.1 C.2.1 dX11_tableD_11 (by decide) ?_
    refine zr_ic_ne (tgt := 21) C dX11_tableD_12 (by decide) h (fun h => ?_) (fun h => ?_)
    · refine lv_sipush (v := 26214) C.1 C.2.1 dX11_tableD_21 (by decide) ?_
      exact zr_reti C w hr dX11_tableD_24 h rfl
    · refine lv_sipush (v := 16384) C.1 C.2.1 dX11_tableD_15 (by decide) ?_
      refine lv_goto (tgt := 24) C.1 C.2.1 dX11_tableD_18 (by decide) ?_
      exact zr_reti C w hr dX11_tableD_24 h rfl
  · refine lv_sipush (v := 6554) C.1 C.2.1 dX11_tableD_4 (by decide) ?_
    refine lv_goto (tgt := 24) C.1 C.2.1 dX11_tableD_7 (by decide) ?_
    exact zr_reti C w hr dX11_tableD_24 h rfl
set_option maxHeartbeats 4000000 in
set_option maxRecDepth 100000 in
theorem zk_X11_looksBack_74 {p : Program} {l : Launch} {e : Env} {s : State} {m : MethodId} {args : Array Value} {below : List Frame} {meth : Method} {c : Code} {G : zg_T} {Q : State → Prop} (C : zx_C p s m args meth c G RX11 cX11_looksBack 15) (S : zs_T) (f1 : Int32) (f2 : Int32) (f5 : Int32) (f6 : Int32) (f7 : Int64) (f9 : Int32) (o10 : Int64) (kont : ∀ (H : Heap) (locs : List Loc) (ls : Array Slot), zg_W G S s H locs → lv_has ls 15 [(0, .ref (zg_q G 40)), (1, .int f1), (2, .int f2), (5, .int f5), (6, .int f6), (7, .long f7), (9, .int f9), (10, .long o10)] → W p l e zr_m_X11_looksBack s m args below meth c H locs 0 0 Q (F0 m 120 ls [])) : ∀ (n : Nat) (x10 : Int64) (x12 : Int32), zl_2 (zb_X11_looksBack_74 S f1 f2 f5 f9) n x10 x12 = some o10 → ∀ (H : Heap) (locs : List Loc) (ls : Array Slot), zg_W G S s H locs → lv_has ls 15 [(0, .ref (zg_q G 40)), (1, .int f1), (2, .int f2), (5, .int f5), (6, .int f6), (7, .long f7), (9, .int f9), (10, .long x10), (12, .int x12)] → W p l e zr_m_X11_looksBack s m args below meth c H locs 0 0 Q (F0 m 74 ls []) := by
  intro n
  induction n with
  | zero => intro x10 x12 h; cases h
  | succ n ih =>
    intro x10 x12 h H locs ls w hl
    replace h : zb_X11_looksBack_74 S f1 f2 f5 f9 (zl_2 (zb_X11_looksBack_74 S f1 f2 f5 f9) n) x10 x12 = some o10 := h
    generalize zl_2 (zb_X11_looksBack_74 S f1 f2 f5 f9) n = rec at ih h
    unfold zb_X11_looksBack_74 at h
    refine lv_iload C.1 C.2.1 dX11_looksBack_74 (lv_at hl 8 rfl) ?_
    refine lv_bipush (v := 40) C.1 C.2.1 dX11_looksBack_76 (by decide) ?_
    refine zr_ic_ge (tgt := 120) C dX11_looksBack_78 (by decide) h (fun h => ?_) (fun h => ?_)
    · cases h
      exact kont _ _ _ w (lv_sub hl [0, 1, 2, 3, 4, 5, 6, 7] rfl)
    · refine lv_lload C.1 C.2.1 dX11_looksBack_81 (lv_at hl 7 rfl) ?_
      refine lv_aload_n C.1 C.2.1 dX11_looksBack_83 rfl (lv_at hl 0 rfl) ?_
      refine zr_get C w 40 zm_w_X11 (zw_g40 G _) rfl 19 (by decide) zm_f_X11_42 rfl dX11_looksBack_84 ?_
      refine lv_bipush (v := 40) C.1 C.2.1 dX11_looksBack_87 (by decide) ?_
      refine lv_iload_n C.1 C.2.1 dX11_looksBack_89 rfl (lv_at hl 1 rfl) ?_
      refine lv_imul C.1 C.2.1 dX11_looksBack_90 ?_
      refine lv_iload C.1 C.2.1 dX11_looksBack_91 (lv_at hl 8 rfl) ?_
      refine lv_iadd C.1 C.2.1 dX11_looksBack_93 ?_
      refine zr_lald C w 50 (zw_g50 G _) dX11_looksBack_94 h (fun h => ?_)
      refine lv_iload C.1 C.2.1 dX11_looksBack_95 (lv_at hl 3 rfl) ?_
      refine lv_lshr C.1 C.2.1 dX11_looksBack_97 rfl ?_
      refine lv_aload_n C.1 C.2.1 dX11_looksBack_98 rfl (lv_at hl 0 rfl) ?_
      refine zr_get C w 40 zm_w_X11 (zw_g40 G _) rfl 15 (by decide) zm_f_X11_32 rfl dX11_looksBack_99 ?_
      refine lv_iload_n C.1 C.2.1 dX11_looksBack_102 rfl (lv_at hl 2 rfl) ?_
      refine lv_iload C.1 C.2.1 dX11_looksBack_103 (lv_at hl 8 rfl) ?_
      refine lv_iadd C.1 C.2.1 dX11_looksBack_105 ?_
      refine lv_iload C.1 C.2.1 dX11_looksBack_106 (lv_at hl 6 rfl) ?_
      refine lv_isub C.1 C.2.1 dX11_looksBack_108 ?_
      refine zr_lald C w 48 (zw_g48 G _) dX11_looksBack_109 h (fun h => ?_)
      refine lv_lmul C.1 C.2.1 dX11_looksBack_110 ?_
      refine lv_ladd C.1 C.2.1 dX11_looksBack_111 ?_
      refine zr_ltl h (fun v2 h => ?_)
      refine lv_lstore (lv' := [(10, .long v2), (0, .ref (zg_q G 40)), (1, .int f1), (2, .int f2), (5, .int f5), (6, .int f6), (7, .long f7), (9, .int f9), (12, .int x12)]) C.1 C.2.1 dX11_looksBack_112 hl (by decide) rfl (fun ls hl => ?_)
      obtain ⟨v3, e_, h⟩ := zc_lt_x h
      refine lv_iinc (v := v3) (lv' := [(12, .int v3), (10, .long v2), (0, .ref (zg_q G 40)), (1, .int f1), (2, .int f2), (5, .int f5), (6, .int f6), (7, .long f7), (9, .int f9)]) C.1 C.2.1 dX11_looksBack_114 hl (k := 8) rfl (by subst e_; rfl) (by decide) rfl (fun ls hl => ?_)
      clear e_
      refine lv_goto (tgt := 74) C.1 C.2.1 dX11_looksBack_117 (by decide) ?_
      exact ih _ _ h _ _ _ w (lv_sub hl [2, 3, 4, 5, 6, 7, 8, 1, 0] rfl)
set_option maxHeartbeats 4000000 in
set_option maxRecDepth 100000 in
theorem zk_X11_looksBack_61 {p : Program} {l : Launch} {e : Env} {s : State} {m : MethodId} {args : Array Value} {below : List Frame} {meth : Method} {c : Code} {G : zg_T} {Q : State → Prop} (C : zx_C p s m args meth c G RX11 cX11_looksBack 15) (S : zs_T) (f1 : Int32) (f2 : Int32) (f5 : Int32) (o6 : Int32) (o7 : Int64) (kont : ∀ (H : Heap) (locs : List Loc) (ls : Array Slot), zg_W G S s H locs → lv_has ls 15 [(0, .ref (zg_q G 40)), (1, .int f1), (2, .int f2), (5, .int f5), (6, .int o6), (7, .long o7)] → W p l e zr_m_X11_looksBack s m args below meth c H locs 0 0 Q (F0 m 142 ls [])) : ∀ (n : Nat) (x6 : Int32) (x7 : Int64) (x9 : Int32), zl_3 (zb_X11_looksBack_61 S f1 f2 f5) n x6 x7 x9 = some (o6, o7) → ∀ (H : Heap) (locs : List Loc) (ls : Array Slot), zg_W G S s H locs → lv_has ls 15 [(0, .ref (zg_q G 40)), (1, .int f1), (2, .int f2), (5, .int f5), (6, .int x6), (7, .long x7), (9, .int x9)] → W p l e zr_m_X11_looksBack s m args below meth c H locs 0 0 Q (F0 m 61 ls []) := by
  intro n
  induction n with
  | zero => intro x6 x7 x9 h; cases h
  | succ n ih =>
    intro x6 x7 x9 h H locs ls w hl
    replace h : zb_X11_looksBack_61 S f1 f2 f5 (zl_3 (zb_X11_looksBack_61 S f1 f2 f5) n) x6 x7 x9 = some (o6, o7) := h
    generalize zl_3 (zb_X11_looksBack_61 S f1 f2 f5) n = rec at ih h
    unfold zb_X11_looksBack_61 at h
    refine lv_iload C.1 C.2.1 dX11_looksBack_61 (lv_at hl 6 rfl) ?_
    refine lv_bipush (v := 121) C.1 C.2.1 dX11_looksBack_63 (by decide) ?_
    refine zr_ic_ge (tgt := 142) C dX11_looksBack_65 (by decide) h (fun h => ?_) (fun h => ?_)
    · cases h
      exact kont _ _ _ w (lv_sub hl [0, 1, 2, 3, 4, 5] rfl)
    · refine lv_lconst (v := 0) C.1 C.2.1 dX11_looksBack_68 (by decide) ?_
      refine lv_lstore (lv' := [(10, .long (0 : Int64)), (0, .ref (zg_q G 40)), (1, .int f1), (2, .int f2), (5, .int f5), (6, .int x6), (7, .long x7), (9, .int x9)]) C.1 C.2.1 dX11_looksBack_69 hl (by decide) rfl (fun ls hl => ?_)
      refine lv_iconst (v := 0) C.1 C.2.1 dX11_looksBack_71 (by decide) ?_
      refine lv_istore (lv' := [(12, .int (0 : Int32)), (10, .long (0 : Int64)), (0, .ref (zg_q G 40)), (1, .int f1), (2, .int f2), (5, .int f5), (6, .int x6), (7, .long x7), (9, .int x9)]) C.1 C.2.1 dX11_looksBack_72 hl (by decide) rfl (fun ls hl => ?_)
      obtain ⟨v4, hc, h⟩ := zc_b1_x h
      refine zk_X11_looksBack_74 C _ f1 f2 f5 x6 x7 x9 v4 (fun H locs ls w hl => ?_) _ _ _ hc _ _ _ w (lv_sub hl [2, 3, 4, 5, 6, 7, 8, 1, 0] rfl)
      clear hc
      refine lv_lload C.1 C.2.1 dX11_looksBack_120 (lv_at hl 7 rfl) ?_
      refine lv_lload C.1 C.2.1 dX11_looksBack_122 (lv_at hl 5 rfl) ?_
      refine zr_lc_le (tgt := 136) C dX11_looksBack_124 dX11_looksBack_125 (by decide) h (fun h => ?_) (fun h => ?_)
      · obtain ⟨v5, e_, h⟩ := zc_lt_x h
        refine lv_iinc (v := v5) (lv' := [(9, .int v5), (0, .ref (zg_q G 40)), (1, .int f1), (2, .int f2), (5, .int f5), (6, .int x6), (7, .long x7), (10, .long v4)]) C.1 C.2.1 dX11_looksBack_136 hl (k := 6) rfl (by subst e_; rfl) (by decide) rfl (fun ls hl => ?_)
        clear e_
        refine lv_goto (tgt := 61) C.1 C.2.1 dX11_looksBack_139 (by decide) ?_
        exact ih _ _ _ h _ _ _ w (lv_sub hl [1, 2, 3, 4, 5, 6, 0] rfl)
      · refine lv_lload C.1 C.2.1 dX11_looksBack_128 (lv_at hl 7 rfl) ?_
        refine lv_lstore (lv' := [(7, .long v4), (0, .ref (zg_q G 40)), (1, .int f1), (2, .int f2), (5, .int f5), (6, .int x6), (9, .int x9), (10, .long v4)]) C.1 C.2.1 dX11_looksBack_130 hl (by decide) rfl (fun ls hl => ?_)
        refine lv_iload C.1 C.2.1 dX11_looksBack_132 (lv_at hl 6 rfl) ?_
        refine lv_istore (lv' := [(6, .int x9), (7, .long v4), (0, .ref (zg_q G 40)), (1, .int f1), (2, .int f2), (5, .int f5), (9, .int x9), (10, .long v4)]) C.1 C.2.1 dX11_looksBack_134 hl (by decide) rfl (fun ls hl => ?_)
        obtain ⟨v6, e_, h⟩ := zc_lt_x h
        refine lv_iinc (v := v6) (lv' := [(9, .int v6), (6, .int x9), (7, .long v4), (0, .ref (zg_q G 40)), (1, .int f1), (2, .int f2), (5, .int f5), (10, .long v4)]) C.1 C.2.1 dX11_looksBack_136 hl (k := 6) rfl (by subst e_; rfl) (by decide) rfl (fun ls hl => ?_)
        clear e_
        refine lv_goto (tgt := 61) C.1 C.2.1 dX11_looksBack_139 (by decide) ?_
        exact ih _ _ _ h _ _ _ w (lv_sub hl [3, 4, 5, 6, 1, 2, 0] rfl)
set_option maxHeartbeats 4000000 in
set_option maxRecDepth 100000 in
theorem zk_X11_looksBack_162 {p : Program} {l : Launch} {e : Env} {s : State} {m : MethodId} {args : Array Value} {below : List Frame} {meth : Method} {c : Code} {G : zg_T} {Q : State → Prop} (C : zx_C p s m args meth c G RX11 cX11_looksBack 15) (S : zs_T) (f1 : Int32) (f2 : Int32) (f6 : Int32) (f9 : Int64) (o11 : Int64) (kont : ∀ (H : Heap) (locs : List Loc) (ls : Array Slot), zg_W G S s H locs → lv_has ls 15 [(0, .ref (zg_q G 40)), (1, .int f1), (6, .int f6), (9, .long f9), (11, .long o11)] → W p l e zr_m_X11_looksBack s m args below meth c H locs 0 0 Q (F0 m 213 ls [])) : ∀ (n : Nat) (x11 : Int64) (x13 : Int32), zl_2 (zb_X11_looksBack_162 S f2 f6) n x11 x13 = some o11 → ∀ (H : Heap) (locs : List Loc) (ls : Array Slot), zg_W G S s H locs → lv_has ls 15 [(0, .ref (zg_q G 40)), (1, .int f1), (2, .int f2), (6, .int f6), (9, .long f9), (11, .long x11), (13, .int x13)] → W p l e zr_m_X11_looksBack s m args below meth c H locs 0 0 Q (F0 m 162 ls []) := by
  intro n
  induction n with
  | zero => intro x11 x13 h; cases h
  | succ n ih =>
    intro x11 x13 h H locs ls w hl
    replace h : zb_X11_looksBack_162 S f2 f6 (zl_2 (zb_X11_looksBack_162 S f2 f6) n) x11 x13 = some o11 := h
    generalize zl_2 (zb_X11_looksBack_162 S f2 f6) n = rec at ih h
    unfold zb_X11_looksBack_162 at h
    refine lv_iload C.1 C.2.1 dX11_looksBack_162 (lv_at hl 6 rfl) ?_
    refine lv_bipush (v := 40) C.1 C.2.1 dX11_looksBack_164 (by decide) ?_
    refine zr_ic_ge (tgt := 213) C dX11_looksBack_166 (by decide) h (fun h => ?_) (fun h => ?_)
    · cases h
      exact kont _ _ _ w (lv_sub hl [0, 1, 3, 4, 5] rfl)
    · refine lv_lload C.1 C.2.1 dX11_looksBack_169 (lv_at hl 5 rfl) ?_
      refine lv_ldc2 (v := 2) C.1 C.2.1 C.2.2.2.1 (C.2.2.2.2.1 _ zm_k_X11_135) dX11_looksBack_171 ?_
      refine lv_aload_n C.1 C.2.1 dX11_looksBack_174 rfl (lv_at hl 0 rfl) ?_
      refine zr_get C w 40 zm_w_X11 (zw_g40 G _) rfl 15 (by decide) zm_f_X11_32 rfl dX11_looksBack_175 ?_
      refine lv_iload_n C.1 C.2.1 dX11_looksBack_178 rfl (lv_at hl 2 rfl) ?_
      refine lv_iload C.1 C.2.1 dX11_looksBack_179 (lv_at hl 6 rfl) ?_
      refine lv_iadd C.1 C.2.1 dX11_looksBack_181 ?_
      refine lv_iload C.1 C.2.1 dX11_looksBack_182 (lv_at hl 3 rfl) ?_
      refine lv_isub C.1 C.2.1 dX11_looksBack_184 ?_
      refine zr_lald C w 48 (zw_g48 G _) dX11_looksBack_185 h (fun h => ?_)
      refine lv_iconst (v := 3) C.1 C.2.1 dX11_looksBack_186 (by decide) ?_
      refine lv_lshr C.1 C.2.1 dX11_looksBack_187 rfl ?_
      refine lv_lmul C.1 C.2.1 dX11_looksBack_188 ?_
      refine lv_aload_n C.1 C.2.1 dX11_looksBack_189 rfl (lv_at hl 0 rfl) ?_
      refine zr_get C w 40 zm_w_X11 (zw_g40 G _) rfl 15 (by decide) zm_f_X11_32 rfl dX11_looksBack_190 ?_
      refine lv_iload_n C.1 C.2.1 dX11_looksBack_193 rfl (lv_at hl 2 rfl) ?_
      refine lv_iload C.1 C.2.1 dX11_looksBack_194 (lv_at hl 6 rfl) ?_
      refine lv_iadd C.1 C.2.1 dX11_looksBack_196 ?_
      refine lv_iload C.1 C.2.1 dX11_looksBack_197 (lv_at hl 3 rfl) ?_
      refine lv_isub C.1 C.2.1 dX11_looksBack_199 ?_
      refine zr_lald C w 48 (zw_g48 G _) dX11_looksBack_200 h (fun h => ?_)
      refine lv_iconst (v := 3) C.1 C.2.1 dX11_looksBack_201 (by decide) ?_
      refine lv_lshr C.1 C.2.1 dX11_looksBack_202 rfl ?_
      refine lv_lmul C.1 C.2.1 dX11_looksBack_203 ?_
      refine lv_ladd C.1 C.2.1 dX11_looksBack_204 ?_
      refine zr_ltl h (fun v10 h => ?_)
      refine lv_lstore (lv' := [(11, .long v10), (0, .ref (zg_q G 40)), (1, .int f1), (2, .int f2), (6, .int f6), (9, .long f9), (13, .int x13)]) C.1 C.2.1 dX11_looksBack_205 hl (by decide) rfl (fun ls hl => ?_)
      obtain ⟨v11, e_, h⟩ := zc_lt_x h
      refine lv_iinc (v := v11) (lv' := [(13, .int v11), (11, .long v10), (0, .ref (zg_q G 40)), (1, .int f1), (2, .int f2), (6, .int f6), (9, .long f9)]) C.1 C.2.1 dX11_looksBack_207 hl (k := 6) rfl (by subst e_; rfl) (by decide) rfl (fun ls hl => ?_)
      clear e_
      refine lv_goto (tgt := 162) C.1 C.2.1 dX11_looksBack_210 (by decide) ?_
      exact ih _ _ h _ _ _ w (lv_sub hl [2, 3, 4, 5, 6, 1, 0] rfl)
set_option maxHeartbeats 4000000 in
set_option maxRecDepth 100000 in
theorem zq_X11_looksBack_288 {p : Program} {l : Launch} {e : Env} {s : State} {m : MethodId} {args : Array Value} {below : List Frame} {meth : Method} {c : Code} {G : zg_T} (hr : meth.sig.returnType = none) (C : zx_C p s m args meth c G RX11 cX11_looksBack 15) (S1 : zs_T) (S : zs_T) (y1 : Int32) (y6 : Int32) (y13 : Int32) (h : zj_X11_looksBack_288 S y1 y6 y13 = some S1) (H : Heap) (locs : List Loc) (ls : Array Slot) (w : zg_W G S s H locs) (hl : lv_has ls 15 [(0, .ref (zg_q G 40)), (1, .int y1), (6, .int y6), (13, .int y13)]) : W p l e zr_m_X11_looksBack s m args below meth c H locs 0 0 (MQ below (zg_Q G none S1) args s 0 0 (zg_A G)) (F0 m 288 ls []) := by
  unfold zj_X11_looksBack_288 at h
  refine lv_aload_n C.1 C.2.1 dX11_looksBack_288 rfl (lv_at hl 0 rfl) ?_
  refine zr_get C w 40 zm_w_X11 (zw_g40 G _) rfl 5 (by decide) zm_f_X11_17 rfl dX11_looksBack_289 ?_
  refine lv_bipush (v := 8) C.1 C.2.1 dX11_looksBack_292 (by decide) ?_
  refine lv_bipush (v := 17) C.1 C.2.1 dX11_looksBack_294 (by decide) ?_
  refine lv_iload_n C.1 C.2.1 dX11_looksBack_296 rfl (lv_at hl 1 rfl) ?_
  refine lv_imul C.1 C.2.1 dX11_looksBack_297 ?_
  refine lv_iadd C.1 C.2.1 dX11_looksBack_298 ?_
  refine lv_iload C.1 C.2.1 dX11_looksBack_299 (lv_at hl 2 rfl) ?_
  refine zr_iast C w 43 (zw_g43 G _) (zw_s43 G _) dX11_looksBack_301 h (fun S13 H locs w h => ?_)
  refine lv_aload_n C.1 C.2.1 dX11_looksBack_302 rfl (lv_at hl 0 rfl) ?_
  refine zr_get C w 40 zm_w_X11 (zw_g40 G _) rfl 5 (by decide) zm_f_X11_17 rfl dX11_looksBack_303 ?_
  refine lv_bipush (v := 9) C.1 C.2.1 dX11_looksBack_306 (by decide) ?_
  refine lv_bipush (v := 17) C.1 C.2.1 dX11_looksBack_308 (by decide) ?_
  refine lv_iload_n C.1 C.2.1 dX11_looksBack_310 rfl (lv_at hl 1 rfl) ?_
  refine lv_imul C.1 C.2.1 dX11_looksBack_311 ?_
  refine lv_iadd C.1 C.2.1 dX11_looksBack_312 ?_
  refine lv_iload C.1 C.2.1 dX11_looksBack_313 (lv_at hl 3 rfl) ?_
  refine zr_iast C w 43 (zw_g43 G _) (zw_s43 G _) dX11_looksBack_315 h (fun S14 H locs w h => ?_)
  exact zr_retv C w hr dX11_looksBack_316 (Option.some.inj h)
set_option maxHeartbeats 4000000 in
set_option maxRecDepth 100000 in
theorem zk_X11_looksBack_247 {p : Program} {l : Launch} {e : Env} {s : State} {m : MethodId} {args : Array Value} {below : List Frame} {meth : Method} {c : Code} {G : zg_T} {Q : State → Prop} (C : zx_C p s m args meth c G RX11 cX11_looksBack 15) (S : zs_T) (f1 : Int32) (f6 : Int32) (f9 : Int64) (f11 : Int64) (f14 : Int32) (o13 : Int32) (kont : ∀ (H : Heap) (locs : List Loc) (ls : Array Slot), zg_W G S s H locs → lv_has ls 15 [(0, .ref (zg_q G 40)), (1, .int f1), (6, .int f6), (13, .int o13)] → W p l e zr_m_X11_looksBack s m args below meth c H locs 0 0 Q (F0 m 288 ls [])) : ∀ (n : Nat) (x13 : Int32), zl_1 (zb_X11_looksBack_247 S f9 f11 f14) n x13 = some o13 → ∀ (H : Heap) (locs : List Loc) (ls : Array Slot), zg_W G S s H locs → lv_has ls 15 [(0, .ref (zg_q G 40)), (1, .int f1), (6, .int f6), (9, .long f9), (11, .long f11), (13, .int x13), (14, .int f14)] → W p l e zr_m_X11_looksBack s m args below meth c H locs 0 0 Q (F0 m 247 ls []) := by
  intro n
  induction n with
  | zero => intro x13 h; cases h
  | succ n ih =>
    intro x13 h H locs ls w hl
    replace h : zb_X11_looksBack_247 S f9 f11 f14 (zl_1 (zb_X11_looksBack_247 S f9 f11 f14) n) x13 = some o13 := h
    generalize zl_1 (zb_X11_looksBack_247 S f9 f11 f14) n = rec at ih h
    unfold zb_X11_looksBack_247 at h
    refine lv_iload C.1 C.2.1 dX11_looksBack_247 (lv_at hl 5 rfl) ?_
    refine lv_iconst (v := 3) C.1 C.2.1 dX11_looksBack_249 (by decide) ?_
    refine zr_ic_ge (tgt := 288) C dX11_looksBack_250 (by decide) h (fun h => ?_) (fun h => ?_)
    · cases h
      exact kont _ _ _ w (lv_sub hl [0, 1, 2, 5] rfl)
    · refine lv_lload C.1 C.2.1 dX11_looksBack_253 (lv_at hl 3 rfl) ?_
      refine lv_iload C.1 C.2.1 dX11_looksBack_255 (lv_at hl 6 rfl) ?_
      refine lv_lshl C.1 C.2.1 dX11_looksBack_257 rfl ?_
      refine lv_bipush (v := 16) C.1 C.2.1 dX11_looksBack_258 (by decide) ?_
      refine lv_lshr C.1 C.2.1 dX11_looksBack_260 rfl ?_
      refine lv_lload C.1 C.2.1 dX11_looksBack_261 (lv_at hl 4 rfl) ?_
      refine lv_iload C.1 C.2.1 dX11_looksBack_263 (lv_at hl 6 rfl) ?_
      refine lv_lshl C.1 C.2.1 dX11_looksBack_265 rfl ?_
      refine lv_bipush (v := 16) C.1 C.2.1 dX11_looksBack_266 (by decide) ?_
      refine lv_lshr C.1 C.2.1 dX11_looksBack_268 rfl ?_
      refine lv_iload C.1 C.2.1 dX11_looksBack_269 (lv_at hl 5 rfl) ?_
      refine zr_callSi C w (As := [.int x13]) (zm_X11_tableD l G _ _ _ rfl) zm_c_X11_tableD zm_l_X11_171 zm_s_X11_tableD zm_0_X11 zm_d_X11_tableD ⟨rfl, rfl⟩ ⟨Nat.le_of_ble_eq_true rfl, Nat.le_of_ble_eq_true rfl⟩ hl.1 rfl rfl (Nat.le_of_ble_eq_true rfl) dX11_looksBack_271 ⟨Nat.le_of_ble_eq_true rfl, Nat.le_of_ble_eq_true rfl⟩ (fun H locs w => ?_)
      refine zr_lti h (fun v16 h => ?_)
      refine lv_i2l C.1 C.2.1 dX11_looksBack_274 rfl ?_
      refine zr_callSl C w (As := [.long ((f11 <<< (Int32.toInt64 f14 &&& 63)) >>> (Int32.toInt64 (16 : Int32) &&& 63)), .long (Int32.toInt64 v16)]) (zm_X11_lower l G _ _ _ _ rfl) zm_c_X11_lower zm_l_X11_149 zm_s_X11_lower zm_0_X11 zm_d_X11_lower ⟨rfl, rfl⟩ ⟨Nat.le_of_ble_eq_true rfl, Nat.le_of_ble_eq_true rfl⟩ hl.1 rfl rfl (Nat.le_of_ble_eq_true rfl) dX11_looksBack_275 ⟨Nat.le_of_ble_eq_true rfl, Nat.le_of_ble_eq_true rfl⟩ (fun H locs w => ?_)
      refine zr_ltl h (fun v17 h => ?_)
      refine zr_lc_le (tgt := 288) C dX11_looksBack_278 dX11_looksBack_279 (by decide) h (fun h => ?_) (fun h => ?_)
      · cases h
        exact kont _ _ _ w (lv_sub hl [0, 1, 2, 5] rfl)
      · obtain ⟨v18, e_, h⟩ := zc_lt_x h
        refine lv_iinc (v := v18) (lv' := [(13, .int v18), (0, .ref (zg_q G 40)), (1, .int f1), (6, .int f6), (9, .long f9), (11, .long f11), (14, .int f14)]) C.1 C.2.1 dX11_looksBack_282 hl (k := 5) rfl (by subst e_; rfl) (by decide) rfl (fun ls hl => ?_)
        clear e_
        refine lv_goto (tgt := 247) C.1 C.2.1 dX11_looksBack_285 (by decide) ?_
        exact ih _ h _ _ _ w (lv_sub hl [1, 2, 3, 4, 5, 0, 6] rfl)
set_option maxHeartbeats 4000000 in
set_option maxRecDepth 100000 in
theorem zq_X11_looksBack_48 {p : Program} {l : Launch} {e : Env} {s : State} {m : MethodId} {args : Array Value} {below : List Frame} {meth : Method} {c : Code} {G : zg_T} (hr : meth.sig.returnType = none) (C : zx_C p s m args meth c G RX11 cX11_looksBack 15) (S1 : zs_T) (S : zs_T) (y1 : Int32) (y2 : Int32) (z0 : Int32) (h : zj_X11_looksBack_48 S y1 y2 z0 = some S1) (H : Heap) (locs : List Loc) (ls : Array Slot) (w : zg_W G S s H locs) (hl : lv_has ls 15 [(0, .ref (zg_q G 40)), (1, .int y1), (2, .int y2)]) : W p l e zr_m_X11_looksBack s m args below meth c H locs 0 0 (MQ below (zg_Q G none S1) args s 0 0 (zg_A G)) (F0 m 48 ls [.int z0]) := by
  unfold zj_X11_looksBack_48 at h
  refine lv_istore (lv' := [(5, .int z0), (0, .ref (zg_q G 40)), (1, .int y1), (2, .int y2)]) C.1 C.2.1 dX11_looksBack_48 hl (by decide) rfl (fun ls hl => ?_)
  refine lv_bipush (v := 40) C.1 C.2.1 dX11_looksBack_50 (by decide) ?_
  refine lv_istore (lv' := [(6, .int (40 : Int32)), (5, .int z0), (0, .ref (zg_q G 40)), (1, .int y1), (2, .int y2)]) C.1 C.2.1 dX11_looksBack_52 hl (by decide) rfl (fun ls hl => ?_)
  refine lv_lconst (v := 0) C.1 C.2.1 dX11_looksBack_54 (by decide) ?_
  refine lv_lstore (lv' := [(7, .long (0 : Int64)), (6, .int (40 : Int32)), (5, .int z0), (0, .ref (zg_q G 40)), (1, .int y1), (2, .int y2)]) C.1 C.2.1 dX11_looksBack_55 hl (by decide) rfl (fun ls hl => ?_)
  refine lv_bipush (v := 40) C.1 C.2.1 dX11_looksBack_57 (by decide) ?_
  refine lv_istore (lv' := [(9, .int (40 : Int32)), (7, .long (0 : Int64)), (6, .int (40 : Int32)), (5, .int z0), (0, .ref (zg_q G 40)), (1, .int y1), (2, .int y2)]) C.1 C.2.1 dX11_looksBack_59 hl (by decide) rfl (fun ls hl => ?_)
  obtain ⟨v7, v8, hc, h⟩ := zc_b2_x h
  refine zk_X11_looksBack_61 C _ y1 y2 z0 v7 v8 (fun H locs ls w hl => ?_) _ _ _ _ hc _ _ _ w (lv_sub hl [4, 5, 6, 3, 2, 1, 0] rfl)
  clear hc
  refine lv_ldc2 (v := 2) C.1 C.2.1 C.2.2.2.1 (C.2.2.2.2.1 _ zm_k_X11_135) dX11_looksBack_142 ?_
  refine lv_lload C.1 C.2.1 dX11_looksBack_145 (lv_at hl 5 rfl) ?_
  refine lv_lmul C.1 C.2.1 dX11_looksBack_147 ?_
  refine lv_bipush (v := 6) C.1 C.2.1 dX11_looksBack_148 (by decide) ?_
  refine lv_iload C.1 C.2.1 dX11_looksBack_150 (lv_at hl 3 rfl) ?_
  refine lv_isub C.1 C.2.1 dX11_looksBack_152 ?_
  refine lv_lshr C.1 C.2.1 dX11_looksBack_153 rfl ?_
  refine zr_ltl h (fun v9 h => ?_)
  refine lv_lstore (lv' := [(9, .long v9), (0, .ref (zg_q G 40)), (1, .int y1), (2, .int y2), (5, .int z0), (6, .int v7), (7, .long v8)]) C.1 C.2.1 dX11_looksBack_154 hl (by decide) rfl (fun ls hl => ?_)
  refine lv_lconst (v := 0) C.1 C.2.1 dX11_looksBack_156 (by decide) ?_
  refine lv_lstore (lv' := [(11, .long (0 : Int64)), (9, .long v9), (0, .ref (zg_q G 40)), (1, .int y1), (2, .int y2), (5, .int z0), (6, .int v7), (7, .long v8)]) C.1 C.2.1 dX11_looksBack_157 hl (by decide) rfl (fun ls hl => ?_)
  refine lv_iconst (v := 0) C.1 C.2.1 dX11_looksBack_159 (by decide) ?_
  refine lv_istore (lv' := [(13, .int (0 : Int32)), (11, .long (0 : Int64)), (9, .long v9), (0, .ref (zg_q G 40)), (1, .int y1), (2, .int y2), (5, .int z0), (6, .int v7), (7, .long v8)]) C.1 C.2.1 dX11_looksBack_160 hl (by decide) rfl (fun ls hl => ?_)
  obtain ⟨v12, hc, h⟩ := zc_b1_x h
  refine zk_X11_looksBack_162 C _ y1 y2 v7 v9 v12 (fun H locs ls w hl => ?_) _ _ _ hc _ _ _ w (lv_sub hl [3, 4, 5, 7, 2, 1, 0] rfl)
  clear hc
  refine lv_iconst (v := 3) C.1 C.2.1 dX11_looksBack_213 (by decide) ?_
  refine lv_istore (lv' := [(13, .int (3 : Int32)), (0, .ref (zg_q G 40)), (1, .int y1), (6, .int v7), (9, .long v9), (11, .long v12)]) C.1 C.2.1 dX11_looksBack_214 hl (by decide) rfl (fun ls hl => ?_)
  refine lv_lload C.1 C.2.1 dX11_looksBack_216 (lv_at hl 4 rfl) ?_
  refine lv_lconst (v := 0) C.1 C.2.1 dX11_looksBack_218 (by decide) ?_
  refine zr_lc_ne (tgt := 229) C dX11_looksBack_219 dX11_looksBack_220 (by decide) h (fun h => ?_) (fun h => ?_)
  · refine lv_lload C.1 C.2.1 dX11_looksBack_229 (lv_at hl 4 rfl) ?_
    refine lv_lload C.1 C.2.1 dX11_looksBack_231 (lv_at hl 5 rfl) ?_
    refine zr_lc_ge (tgt := 288) C dX11_looksBack_233 dX11_looksBack_234 (by decide) h (fun h => ?_) (fun h => ?_)
    · exact zq_X11_looksBack_288 hr C _ _ _ _ _ h _ _ _ w (lv_sub hl [1, 2, 3, 0] rfl)
    · refine lv_lload C.1 C.2.1 dX11_looksBack_237 (lv_at hl 5 rfl) ?_
      obtain ⟨v15, hc, h⟩ := zc_b1_x h
      refine zr_callSi C w (As := [.long v12]) (zm_X11_norm l G _ _ _ hc) zm_c_X11_norm zm_l_X11_131 zm_s_X11_norm zm_0_X11 zm_d_X11_norm ⟨rfl, rfl⟩ ⟨Nat.le_of_ble_eq_true rfl, Nat.le_of_ble_eq_true rfl⟩ hl.1 rfl rfl (Nat.le_of_ble_eq_true rfl) dX11_looksBack_239 ⟨Nat.le_of_ble_eq_true rfl, Nat.le_of_ble_eq_true rfl⟩ (fun H locs w => ?_)
      clear hc
      refine lv_istore (lv' := [(14, .int v15), (13, .int (3 : Int32)), (0, .ref (zg_q G 40)), (1, .int y1), (6, .int v7), (9, .long v9), (11, .long v12)]) C.1 C.2.1 dX11_looksBack_242 hl (by decide) rfl (fun ls hl => ?_)
      refine lv_iconst (v := 0) C.1 C.2.1 dX11_looksBack_244 (by decide) ?_
      refine lv_istore (lv' := [(13, .int (0 : Int32)), (14, .int v15), (0, .ref (zg_q G 40)), (1, .int y1), (6, .int v7), (9, .long v9), (11, .long v12)]) C.1 C.2.1 dX11_looksBack_245 hl (by decide) rfl (fun ls hl => ?_)
      obtain ⟨v19, hc, h⟩ := zc_b1_x h
      refine zk_X11_looksBack_247 C _ y1 v7 v9 v12 v15 v19 (fun H locs ls w hl => ?_) _ _ hc _ _ _ w (lv_sub hl [2, 3, 4, 5, 6, 0, 1] rfl)
      clear hc
      exact zq_X11_looksBack_288 hr C _ _ _ _ _ h _ _ _ w (lv_sub hl [0, 1, 2, 3] rfl)
  · refine lv_iconst (v := 0) C.1 C.2.1 dX11_looksBack_223 (by decide) ?_
    refine lv_istore (lv' := [(13, .int (0 : Int32)), (0, .ref (zg_q G 40)), (1, .int y1), (6, .int v7), (9, .long v9), (11, .long v12)]) C.1 C.2.1 dX11_looksBack_224 hl (by decide) rfl (fun ls hl => ?_)
    refine lv_goto (tgt := 288) C.1 C.2.1 dX11_looksBack_226 (by decide) ?_
    exact zq_X11_looksBack_288 hr C _ _ _ _ _ h _ _ _ w (lv_sub hl [1, 2, 3, 0] rfl)
set_option maxHeartbeats 4000000 in
set_option maxRecDepth 100000 in
theorem zq_X11_looksBack_33 {p : Program} {l : Launch} {e : Env} {s : State} {m : MethodId} {args : Array Value} {below : List Frame} {meth : Method} {c : Code} {G : zg_T} (hr : meth.sig.returnType = none) (C : zx_C p s m args meth c G RX11 cX11_looksBack 15) (S1 : zs_T) (S : zs_T) (y1 : Int32) (y2 : Int32) (h : zj_X11_looksBack_33 S y1 y2 = some S1) (H : Heap) (locs : List Loc) (ls : Array Slot) (w : zg_W G S s H locs) (hl : lv_has ls 15 [(0, .ref (zg_q G 40)), (1, .int y1), (2, .int y2)]) : W p l e zr_m_X11_looksBack s m args below meth c H locs 0 0 (MQ below (zg_Q G none S1) args s 0 0 (zg_A G)) (F0 m 33 ls []) := by
  unfold zj_X11_looksBack_33 at h
  refine lv_iconst (v := 0) C.1 C.2.1 dX11_looksBack_33 (by decide) ?_
  refine lv_goto (tgt := 48) C.1 C.2.1 dX11_looksBack_34 (by decide) ?_
  exact zq_X11_looksBack_48 hr C _ _ _ _ _ h _ _ _ w (lv_sub hl [0, 1, 2] rfl)
set_option maxHeartbeats 4000000 in
set_option maxRecDepth 100000 in
theorem zm_X11_looksBack (l : Launch) (G : zg_T) (S : zs_T) (a1 : Int32) (a2 : Int32) (S1 : zs_T) (h : zf_X11_looksBack S a1 a2 = some S1) : Met l yX11_looksBack (Cond.code yX11_looksBack cX11_looksBack 15 none :: zt_G) zr_m_X11_looksBack (va_Pc [.ref (zg_q G 40), .int a1, .int a2] (zg_P G S)) (zg_Q G none S1) 0 0 (zg_A G) := by
  refine zx_met (by decide +kernel) (Nat.le_of_ble_eq_true rfl) (lv := [(0, .ref (zg_q G 40)), (1, .int a1), (2, .int a2)]) rfl ?_
  intro p e s m below meth c C hr w ls hl
  replace C : zx_C p s m _ meth c G RX11 cX11_looksBack 15 := C
  unfold zf_X11_looksBack at h
  refine lv_aload_n C.1 C.2.1 dX11_looksBack_0 rfl (lv_at hl 0 rfl) ?_
  refine zr_get C w 40 zm_w_X11 (zw_g40 G _) rfl 19 (by decide) zm_f_X11_42 rfl dX11_looksBack_1 ?_
  refine lv_bipush (v := 40) C.1 C.2.1 dX11_looksBack_4 (by decide) ?_
  refine lv_iload_n C.1 C.2.1 dX11_looksBack_6 rfl (lv_at hl 1 rfl) ?_
  refine lv_imul C.1 C.2.1 dX11_looksBack_7 ?_
  refine lv_bipush (v := 40) C.1 C.2.1 dX11_looksBack_8 (by decide) ?_
  obtain ⟨v1, hc, h⟩ := zc_b1_x h
  refine zr_callSl C w (As := [.ref (zg_q G 50), .int ((40 : Int32) * a1), .int (40 : Int32)]) (zm_X11_greatest_50 l G _ _ _ _ hc) zm_c_X11_greatest zm_l_X11_127 zm_s_X11_greatest zm_0_X11 zm_d_X11_greatest ⟨rfl, rfl⟩ ⟨Nat.le_of_ble_eq_true rfl, Nat.le_of_ble_eq_true rfl⟩ hl.1 rfl rfl (Nat.le_of_ble_eq_true rfl) dX11_looksBack_10 ⟨Nat.le_of_ble_eq_true rfl, Nat.le_of_ble_eq_true rfl⟩ (fun H locs w => ?_)
  clear hc
  refine lv_lstore_n (lv' := [(3, .long v1), (0, .ref (zg_q G 40)), (1, .int a1), (2, .int a2)]) C.1 C.2.1 dX11_looksBack_13 rfl hl (by decide) rfl (fun ls hl => ?_)
  refine lv_lload_n C.1 C.2.1 dX11_looksBack_14 rfl (lv_at hl 0 rfl) ?_
  refine lv_lconst (v := 0) C.1 C.2.1 dX11_looksBack_15 (by decide) ?_
  refine zr_lc_eq (tgt := 33) C dX11_looksBack_16 dX11_looksBack_17 (by decide) h (fun h => ?_) (fun h => ?_)
  · exact zq_X11_looksBack_33 hr C _ _ _ _ h _ _ _ w (lv_sub hl [1, 2, 3] rfl)
  · refine lv_lload_n C.1 C.2.1 dX11_looksBack_20 rfl (lv_at hl 0 rfl) ?_
    refine lv_ldc2 (v := 65536) C.1 C.2.1 C.2.2.2.1 (C.2.2.2.2.1 _ zm_k_X11_97) dX11_looksBack_21 ?_
    refine lv_lmul C.1 C.2.1 dX11_looksBack_24 ?_
    obtain ⟨v20, hc, h⟩ := zc_b1_x h
    refine zr_callSi C w (As := [.long (v1 * (65536 : Int64))]) (zm_X11_norm l G _ _ _ hc) zm_c_X11_norm zm_l_X11_131 zm_s_X11_norm zm_0_X11 zm_d_X11_norm ⟨rfl, rfl⟩ ⟨Nat.le_of_ble_eq_true rfl, Nat.le_of_ble_eq_true rfl⟩ hl.1 rfl rfl (Nat.le_of_ble_eq_true rfl) dX11_looksBack_25 ⟨Nat.le_of_ble_eq_true rfl, Nat.le_of_ble_eq_true rfl⟩ (fun H locs w => ?_)
    clear hc
    refine lv_bipush (v := 6) C.1 C.2.1 dX11_looksBack_28 (by decide) ?_
    refine zr_ic_le (tgt := 37) C dX11_looksBack_30 (by decide) h (fun h => ?_) (fun h => ?_)
    · refine lv_bipush (v := 6) C.1 C.2.1 dX11_looksBack_37 (by decide) ?_
      refine lv_lload_n C.1 C.2.1 dX11_looksBack_39 rfl (lv_at hl 0 rfl) ?_
      refine lv_ldc2 (v := 65536) C.1 C.2.1 C.2.2.2.1 (C.2.2.2.2.1 _ zm_k_X11_97) dX11_looksBack_40 ?_
      refine lv_lmul C.1 C.2.1 dX11_looksBack_43 ?_
      obtain ⟨v21, hc, h⟩ := zc_b1_x h
      refine zr_callSi C w (As := [.long (v1 * (65536 : Int64))]) (zm_X11_norm l G _ _ _ hc) zm_c_X11_norm zm_l_X11_131 zm_s_X11_norm zm_0_X11 zm_d_X11_norm ⟨rfl, rfl⟩ ⟨Nat.le_of_ble_eq_true rfl, Nat.le_of_ble_eq_true rfl⟩ hl.1 rfl rfl (Nat.le_of_ble_eq_true rfl) dX11_looksBack_44 ⟨Nat.le_of_ble_eq_true rfl, Nat.le_of_ble_eq_true rfl⟩ (fun H locs w => ?_)
      clear hc
      refine lv_isub C.1 C.2.1 dX11_looksBack_47 ?_
      exact zq_X11_looksBack_48 hr C _ _ _ _ _ h _ _ _ w (lv_sub hl [1, 2, 3] rfl)
    · exact zq_X11_looksBack_33 hr C _ _ _ _ h _ _ _ w (lv_sub hl [1, 2, 3] rfl)
set_option maxHeartbeats 4000000 in
set_option maxRecDepth 100000 in
theorem zm_X11_tableG (l : Launch) (G : zg_T) (S : zs_T) (a1 : Int32) (r : Int32) (h : zf_X11_tableG a1 = r) : Met l yX11_tableG (Cond.code yX11_tableG cX11_tableG 1 (some .int) :: zt_G) zr_m_X11_tableG (va_Pc [.int a1] (zg_P G S)) (zg_Q G (some (.int r)) S) 0 0 (zg_A G) := by
  refine zx_met (by decide +kernel) (Nat.le_of_ble_eq_true rfl) (lv := [(0, .int a1)]) rfl ?_
  intro p e s m below meth c C hr w ls hl
  replace C : zx_C p s m _ meth c G RX11 cX11_tableG 1 := C
  unfold zf_X11_tableG at h
  refine lv_iload_n C.1 C.2.1 dX11_tableG_0 rfl (lv_at hl 0 rfl) ?_
  refine zr_if_ne (tgt := 10) C dX11_tableG_1 (by decide) h (fun h => ?_) (fun h => ?_)
  · refine lv_iload_n C.1 C.2.1 dX11_tableG_10 rfl (lv_at hl 0 rfl) ?_
    refine lv_iconst (v := 1) C.1 C.2.1 dX11_tableG_11 (by decide) ?_
    refine zr_ic_ne (tgt := 21) C dX11_tableG_12 (by decide) h (fun h => ?_) (fun h => ?_)
    · refine lv_iload_n C.1 C.2.1 dX11_tableG_21 rfl (lv_at hl 0 rfl) ?_
      refine lv_iconst (v := 2) C.1 C.2.1 dX11_tableG_22 (by decide) ?_
      refine zr_ic_ne (tgt := 32) C dX11_tableG_23 (by decide) h (fun h => ?_) (fun h => ?_)
      · refine lv_sipush (v := 32767) C.1 C.2.1 dX11_tableG_32 (by decide) ?_
        exact zr_reti C w hr dX11_tableG_35 h rfl
      · refine lv_sipush (v := 21299) C.1 C.2.1 dX11_tableG_26 (by decide) ?_
        refine lv_goto (tgt := 35) C.1 C.2.1 dX11_tableG_29 (by decide) ?_
        exact zr_reti C w hr dX11_tableG_35 h rfl
    · refine lv_sipush (v := 11469) C.1 C.2.1 dX11_tableG_15 (by decide) ?_
      refine lv_goto (tgt := 35) C.1 C.2.1 dX11_tableG_18 (by decide) ?_
      exact zr_reti C w hr dX11_tableG_35 h rfl
  · refine lv_sipush (v := 3277) C.1 C.2.1 dX11_tableG_4 (by decide) ?_
    refine lv_goto (tgt := 35) C.1 C.2.1 dX11_tableG_7 (by decide) ?_
    exact zr_reti C w hr dX11_tableG_35 h rfl
set_option maxHeartbeats 4000000 in
set_option maxRecDepth 100000 in
theorem zq_X11_tableH_14 {p : Program} {l : Launch} {e : Env} {s : State} {m : MethodId} {args : Array Value} {below : List Frame} {meth : Method} {c : Code} {G : zg_T} (hr : meth.sig.returnType = (some .int)) (C : zx_C p s m args meth c G RX11 cX11_tableH 2) (r : Int32) (S : zs_T) (z0 : Int32) (h : zj_X11_tableH_14 z0 = r) (H : Heap) (locs : List Loc) (ls : Array Slot) (w : zg_W G S s H locs) (hl : lv_has ls 2 []) : W p l e zr_m_X11_tableH s m args below meth c H locs 0 0 (MQ below (zg_Q G (some (.int r)) S) args s 0 0 (zg_A G)) (F0 m 14 ls [.int z0]) := by
  unfold zj_X11_tableH_14 at h
  refine lv_istore_n (lv' := [(1, .int z0)]) C.1 C.2.1 dX11_tableH_14 rfl hl (by decide) rfl (fun ls hl => ?_)
  refine lv_iload_n C.1 C.2.1 dX11_tableH_15 rfl (lv_at hl 0 rfl) ?_
  refine zr_if_ne (tgt := 25) C dX11_tableH_16 (by decide) h (fun h => ?_) (fun h => ?_)
  · refine lv_iload_n C.1 C.2.1 dX11_tableH_25 rfl (lv_at hl 0 rfl) ?_
    refine lv_iconst (v := 1) C.1 C.2.1 dX11_tableH_26 (by decide) ?_
    refine zr_ic_ne (tgt := 36) C dX11_tableH_27 (by decide) h (fun h => ?_) (fun h => ?_)
    · refine lv_iload_n C.1 C.2.1 dX11_tableH_36 rfl (lv_at hl 0 rfl) ?_
      refine lv_iconst (v := 2) C.1 C.2.1 dX11_tableH_37 (by decide) ?_
      refine zr_ic_ne (tgt := 47) C dX11_tableH_38 (by decide) h (fun h => ?_) (fun h => ?_)
      · refine lv_iload_n C.1 C.2.1 dX11_tableH_47 rfl (lv_at hl 0 rfl) ?_
        refine lv_iconst (v := 3) C.1 C.2.1 dX11_tableH_48 (by decide) ?_
        refine zr_ic_ne (tgt := 56) C dX11_tableH_49 (by decide) h (fun h => ?_) (fun h => ?_)
        · refine lv_iload_n C.1 C.2.1 dX11_tableH_56 rfl (lv_at hl 0 rfl) ?_
          refine lv_iconst (v := 4) C.1 C.2.1 dX11_tableH_57 (by decide) ?_
          refine zr_ic_ne (tgt := 67) C dX11_tableH_58 (by decide) h (fun h => ?_) (fun h => ?_)
          · refine lv_sipush (v := -134) C.1 C.2.1 dX11_tableH_67 (by decide) ?_
            exact zr_reti C w hr dX11_tableH_70 h rfl
          · refine lv_sipush (v := -374) C.1 C.2.1 dX11_tableH_61 (by decide) ?_
            refine lv_goto (tgt := 70) C.1 C.2.1 dX11_tableH_64 (by decide) ?_
            exact zr_reti C w hr dX11_tableH_70 h rfl
        · refine lv_iconst (v := 0) C.1 C.2.1 dX11_tableH_52 (by decide) ?_
          refine lv_goto (tgt := 70) C.1 C.2.1 dX11_tableH_53 (by decide) ?_
          exact zr_reti C w hr dX11_tableH_70 h rfl
      · refine lv_sipush (v := 2054) C.1 C.2.1 dX11_tableH_41 (by decide) ?_
        refine lv_goto (tgt := 70) C.1 C.2.1 dX11_tableH_44 (by decide) ?_
        exact zr_reti C w hr dX11_tableH_70 h rfl
    · refine lv_sipush (v := 5741) C.1 C.2.1 dX11_tableH_30 (by decide) ?_
      refine lv_goto (tgt := 70) C.1 C.2.1 dX11_tableH_33 (by decide) ?_
      exact zr_reti C w hr dX11_tableH_70 h rfl
  · refine lv_sipush (v := 8192) C.1 C.2.1 dX11_tableH_19 (by decide) ?_
    refine lv_goto (tgt := 70) C.1 C.2.1 dX11_tableH_22 (by decide) ?_
    exact zr_reti C w hr dX11_tableH_70 h rfl
set_option maxHeartbeats 4000000 in
set_option maxRecDepth 100000 in
theorem zm_X11_tableH (l : Launch) (G : zg_T) (S : zs_T) (a1 : Int32) (r : Int32) (h : zf_X11_tableH a1 = r) : Met l yX11_tableH (Cond.code yX11_tableH cX11_tableH 2 (some .int) :: zt_G) zr_m_X11_tableH (va_Pc [.int a1] (zg_P G S)) (zg_Q G (some (.int r)) S) 0 0 (zg_A G) := by
  refine zx_met (by decide +kernel) (Nat.le_of_ble_eq_true rfl) (lv := [(0, .int a1)]) rfl ?_
  intro p e s m below meth c C hr w ls hl
  replace C : zx_C p s m _ meth c G RX11 cX11_tableH 2 := C
  unfold zf_X11_tableH at h
  refine lv_iload_n C.1 C.2.1 dX11_tableH_0 rfl (lv_at hl 0 rfl) ?_
  refine lv_iconst (v := 5) C.1 C.2.1 dX11_tableH_1 (by decide) ?_
  refine zr_ic_le (tgt := 11) C dX11_tableH_2 (by decide) h (fun h => ?_) (fun h => ?_)
  · refine lv_iconst (v := 5) C.1 C.2.1 dX11_tableH_11 (by decide) ?_
    refine lv_iload_n C.1 C.2.1 dX11_tableH_12 rfl (lv_at hl 0 rfl) ?_
    refine lv_isub C.1 C.2.1 dX11_tableH_13 ?_
    exact zq_X11_tableH_14 hr C _ _ _ h _ _ _ w (lv_sub hl [] rfl)
  · refine lv_iload_n C.1 C.2.1 dX11_tableH_5 rfl (lv_at hl 0 rfl) ?_
    refine lv_iconst (v := 5) C.1 C.2.1 dX11_tableH_6 (by decide) ?_
    refine lv_isub C.1 C.2.1 dX11_tableH_7 ?_
    refine lv_goto (tgt := 14) C.1 C.2.1 dX11_tableH_8 (by decide) ?_
    exact zq_X11_tableH_14 hr C _ _ _ h _ _ _ w (lv_sub hl [] rfl)
set_option maxHeartbeats 4000000 in
set_option maxRecDepth 100000 in
theorem zq_X11_filters_43 {p : Program} {l : Launch} {e : Env} {s : State} {m : MethodId} {args : Array Value} {below : List Frame} {meth : Method} {c : Code} {G : zg_T} {Q : State → Prop} (C : zx_C p s m args meth c G RX11 cX11_filters 6) (rec : Int64 → Int32 → Option Int64) (S : zs_T) (y1 : Int32) (y4 : Int32) (z0 : Int64) (o2 : Int64) (kont : ∀ (H : Heap) (locs : List Loc) (ls : Array Slot), zg_W G S s H locs → lv_has ls 6 [(0, .ref (zg_q G 40)), (1, .int y1), (2, .long o2)] → W p l e zr_m_X11_filters s m args below meth c H locs 0 0 Q (F0 m 69 ls [])) (ih : ∀ (x2 : Int64) (x4 : Int32), rec x2 x4 = some o2 → ∀ (H : Heap) (locs : List Loc) (ls : Array Slot), zg_W G S s H locs → lv_has ls 6 [(0, .ref (zg_q G 40)), (1, .int y1), (2, .long x2), (4, .int x4)] → W p l e zr_m_X11_filters s m args below meth c H locs 0 0 Q (F0 m 15 ls [])) (h : zj_X11_filters_43 rec S y1 y4 z0 = some o2) (H : Heap) (locs : List Loc) (ls : Array Slot) (w : zg_W G S s H locs) (hl : lv_has ls 6 [(0, .ref (zg_q G 40)), (1, .int y1), (4, .int y4)]) : W p l e zr_m_X11_filters s m args below meth c H locs 0 0 Q (F0 m 43 ls [.long z0]) := by
  unfold zj_X11_filters_43 at h
  refine lv_lconst (v := 0) C.1 C.2.1 dX11_filters_43 (by decide) ?_
  refine lv_goto (tgt := 61) C.1 C.2.1 dX11_filters_44 (by decide) ?_
  refine lv_ladd C.1 C.2.1 dX11_filters_61 ?_
  refine zr_ltl h (fun v2 h => ?_)
  refine lv_lstore_n (lv' := [(2, .long v2), (0, .ref (zg_q G 40)), (1, .int y1), (4, .int y4)]) C.1 C.2.1 dX11_filters_62 rfl hl (by decide) rfl (fun ls hl => ?_)
  obtain ⟨v3, e_, h⟩ := zc_lt_x h
  refine lv_iinc (v := v3) (lv' := [(4, .int v3), (2, .long v2), (0, .ref (zg_q G 40)), (1, .int y1)]) C.1 C.2.1 dX11_filters_63 hl (k := 3) rfl (by subst e_; rfl) (by decide) rfl (fun ls hl => ?_)
  clear e_
  refine lv_goto (tgt := 15) C.1 C.2.1 dX11_filters_66 (by decide) ?_
  exact ih _ _ h _ _ _ w (lv_sub hl [2, 3, 1, 0] rfl)
set_option maxHeartbeats 4000000 in
set_option maxRecDepth 100000 in
theorem zk_X11_filters_15 {p : Program} {l : Launch} {e : Env} {s : State} {m : MethodId} {args : Array Value} {below : List Frame} {meth : Method} {c : Code} {G : zg_T} {Q : State → Prop} (C : zx_C p s m args meth c G RX11 cX11_filters 6) (S : zs_T) (f1 : Int32) (o2 : Int64) (kont : ∀ (H : Heap) (locs : List Loc) (ls : Array Slot), zg_W G S s H locs → lv_has ls 6 [(0, .ref (zg_q G 40)), (1, .int f1), (2, .long o2)] → W p l e zr_m_X11_filters s m args below meth c H locs 0 0 Q (F0 m 69 ls [])) : ∀ (n : Nat) (x2 : Int64) (x4 : Int32), zl_2 (zb_X11_filters_15 S f1) n x2 x4 = some o2 → ∀ (H : Heap) (locs : List Loc) (ls : Array Slot), zg_W G S s H locs → lv_has ls 6 [(0, .ref (zg_q G 40)), (1, .int f1), (2, .long x2), (4, .int x4)] → W p l e zr_m_X11_filters s m args below meth c H locs 0 0 Q (F0 m 15 ls []) := by
  intro n
  induction n with
  | zero => intro x2 x4 h; cases h
  | succ n ih =>
    intro x2 x4 h H locs ls w hl
    replace h : zb_X11_filters_15 S f1 (zl_2 (zb_X11_filters_15 S f1) n) x2 x4 = some o2 := h
    generalize zl_2 (zb_X11_filters_15 S f1) n = rec at ih h
    unfold zb_X11_filters_15 at h
    refine lv_iload C.1 C.2.1 dX11_filters_15 (lv_at hl 3 rfl) ?_
    refine lv_bipush (v := 11) C.1 C.2.1 dX11_filters_17 (by decide) ?_
    refine zr_ic_ge (tgt := 69) C dX11_filters_19 (by decide) h (fun h => ?_) (fun h => ?_)
    · cases h
      exact kont _ _ _ w (lv_sub hl [0, 1, 2] rfl)
    · refine lv_iload_n C.1 C.2.1 dX11_filters_22 rfl (lv_at hl 1 rfl) ?_
      refine lv_iload C.1 C.2.1 dX11_filters_23 (lv_at hl 3 rfl) ?_
      refine lv_iadd C.1 C.2.1 dX11_filters_25 ?_
      refine lv_iconst (v := 5) C.1 C.2.1 dX11_filters_26 (by decide) ?_
      refine lv_isub C.1 C.2.1 dX11_filters_27 ?_
      refine zr_lti h (fun v1 h => ?_)
      refine lv_istore (lv' := [(5, .int v1), (0, .ref (zg_q G 40)), (1, .int f1), (2, .long x2), (4, .int x4)]) C.1 C.2.1 dX11_filters_28 hl (by decide) rfl (fun ls hl => ?_)
      refine lv_lload_n C.1 C.2.1 dX11_filters_30 rfl (lv_at hl 3 rfl) ?_
      refine lv_iload C.1 C.2.1 dX11_filters_31 (lv_at hl 0 rfl) ?_
      refine zr_if_lt (tgt := 43) C dX11_filters_33 (by decide) h (fun h => ?_) (fun h => ?_)
      · exact zq_X11_filters_43 C rec _ _ _ _ _ kont ih h _ _ _ w (lv_sub hl [1, 2, 4] rfl)
      · refine lv_iload C.1 C.2.1 dX11_filters_36 (lv_at hl 0 rfl) ?_
        refine lv_bipush (v := 40) C.1 C.2.1 dX11_filters_38 (by decide) ?_
        refine zr_ic_lt (tgt := 47) C dX11_filters_40 (by decide) h (fun h => ?_) (fun h => ?_)
        · refine lv_iload C.1 C.2.1 dX11_filters_47 (lv_at hl 4 rfl) ?_
          refine zr_callSi C w (As := [.int x4]) (zm_X11_tableH l G _ _ _ rfl) zm_c_X11_tableH zm_l_X11_176 zm_s_X11_tableH zm_0_X11 zm_d_X11_tableH ⟨rfl, rfl⟩ ⟨Nat.le_of_ble_eq_true rfl, Nat.le_of_ble_eq_true rfl⟩ hl.1 rfl rfl (Nat.le_of_ble_eq_true rfl) dX11_filters_49 ⟨Nat.le_of_ble_eq_true rfl, Nat.le_of_ble_eq_true rfl⟩ (fun H locs w => ?_)
          refine zr_lti h (fun v4 h => ?_)
          refine lv_i2l C.1 C.2.1 dX11_filters_52 rfl ?_
          refine lv_aload_n C.1 C.2.1 dX11_filters_53 rfl (lv_at hl 1 rfl) ?_
          refine zr_get C w 40 zm_w_X11 (zw_g40 G _) rfl 20 (by decide) zm_f_X11_45 rfl dX11_filters_54 ?_
          refine lv_iload C.1 C.2.1 dX11_filters_57 (lv_at hl 0 rfl) ?_
          refine zr_lald C w 51 (zw_g51 G _) dX11_filters_59 h (fun h => ?_)
          refine lv_lmul C.1 C.2.1 dX11_filters_60 ?_
          refine lv_ladd C.1 C.2.1 dX11_filters_61 ?_
          refine zr_ltl h (fun v5 h => ?_)
          refine lv_lstore_n (lv' := [(2, .long v5), (5, .int v1), (0, .ref (zg_q G 40)), (1, .int f1), (4, .int x4)]) C.1 C.2.1 dX11_filters_62 rfl hl (by decide) rfl (fun ls hl => ?_)
          obtain ⟨v6, e_, h⟩ := zc_lt_x h
          refine lv_iinc (v := v6) (lv' := [(4, .int v6), (2, .long v5), (5, .int v1), (0, .ref (zg_q G 40)), (1, .int f1)]) C.1 C.2.1 dX11_filters_63 hl (k := 4) rfl (by subst e_; rfl) (by decide) rfl (fun ls hl => ?_)
          clear e_
          refine lv_goto (tgt := 15) C.1 C.2.1 dX11_filters_66 (by decide) ?_
          exact ih _ _ h _ _ _ w (lv_sub hl [3, 4, 1, 0] rfl)
        · exact zq_X11_filters_43 C rec _ _ _ _ _ kont ih h _ _ _ w (lv_sub hl [1, 2, 4] rfl)
set_option maxHeartbeats 4000000 in
set_option maxRecDepth 100000 in
theorem zk_X11_filters_2 {p : Program} {l : Launch} {e : Env} {s : State} {m : MethodId} {args : Array Value} {below : List Frame} {meth : Method} {c : Code} {G : zg_T} {Q : State → Prop} (C : zx_C p s m args meth c G RX11 cX11_filters 6) (oS : zs_T) (kont : ∀ (H : Heap) (locs : List Loc) (ls : Array Slot), zg_W G oS s H locs → lv_has ls 6 [] → W p l e zr_m_X11_filters s m args below meth c H locs 0 0 Q (F0 m 88 ls [])) : ∀ (n : Nat) (S : zs_T) (x1 : Int32), zl_2 (zb_X11_filters_2) n S x1 = some oS → ∀ (H : Heap) (locs : List Loc) (ls : Array Slot), zg_W G S s H locs → lv_has ls 6 [(0, .ref (zg_q G 40)), (1, .int x1)] → W p l e zr_m_X11_filters s m args below meth c H locs 0 0 Q (F0 m 2 ls []) := by
  intro n
  induction n with
  | zero => intro S x1 h; cases h
  | succ n ih =>
    intro S x1 h H locs ls w hl
    replace h : zb_X11_filters_2 (zl_2 (zb_X11_filters_2) n) S x1 = some oS := h
    generalize zl_2 (zb_X11_filters_2) n = rec at ih h
    unfold zb_X11_filters_2 at h
    refine lv_iload_n C.1 C.2.1 dX11_filters_2 rfl (lv_at hl 1 rfl) ?_
    refine lv_bipush (v := 40) C.1 C.2.1 dX11_filters_3 (by decide) ?_
    refine zr_ic_ge (tgt := 88) C dX11_filters_5 (by decide) h (fun h => ?_) (fun h => ?_)
    · cases h
      exact kont _ _ _ w (lv_sub hl [] rfl)
    · refine lv_ldc2 (v := 4096) C.1 C.2.1 C.2.2.2.1 (C.2.2.2.2.1 _ zm_k_X11_174) dX11_filters_8 ?_
      refine lv_lstore_n (lv' := [(2, .long (4096 : Int64)), (0, .ref (zg_q G 40)), (1, .int x1)]) C.1 C.2.1 dX11_filters_11 rfl hl (by decide) rfl (fun ls hl => ?_)
      refine lv_iconst (v := 0) C.1 C.2.1 dX11_filters_12 (by decide) ?_
      refine lv_istore (lv' := [(4, .int (0 : Int32)), (2, .long (4096 : Int64)), (0, .ref (zg_q G 40)), (1, .int x1)]) C.1 C.2.1 dX11_filters_13 hl (by decide) rfl (fun ls hl => ?_)
      obtain ⟨v7, hc, h⟩ := zc_b1_x h
      refine zk_X11_filters_15 C _ x1 v7 (fun H locs ls w hl => ?_) _ _ _ hc _ _ _ w (lv_sub hl [2, 3, 1, 0] rfl)
      clear hc
      refine lv_aload_n C.1 C.2.1 dX11_filters_69 rfl (lv_at hl 0 rfl) ?_
      refine zr_get C w 40 zm_w_X11 (zw_g40 G _) rfl 21 (by decide) zm_f_X11_48 rfl dX11_filters_70 ?_
      refine lv_iload_n C.1 C.2.1 dX11_filters_73 rfl (lv_at hl 1 rfl) ?_
      refine lv_lload_n C.1 C.2.1 dX11_filters_74 rfl (lv_at hl 2 rfl) ?_
      refine lv_bipush (v := 13) C.1 C.2.1 dX11_filters_75 (by decide) ?_
      refine lv_lshr C.1 C.2.1 dX11_filters_77 rfl ?_
      refine zr_callSl C w (As := [.long (v7 >>> (Int32.toInt64 (13 : Int32) &&& 63))]) (zm_X11_cut l G _ _ _ rfl) zm_c_X11_cut zm_l_X11_82 zm_s_X11_cut zm_0_X11 zm_d_X11_cut ⟨rfl, rfl⟩ ⟨Nat.le_of_ble_eq_true rfl, Nat.le_of_ble_eq_true rfl⟩ hl.1 rfl rfl (Nat.le_of_ble_eq_true rfl) dX11_filters_78 ⟨Nat.le_of_ble_eq_true rfl, Nat.le_of_ble_eq_true rfl⟩ (fun H locs w => ?_)
      refine zr_ltl h (fun v8 h => ?_)
      refine zr_last C w 52 (zw_g52 G _) (zw_s52 G _) dX11_filters_81 h (fun S9 H locs w h => ?_)
      obtain ⟨v10, e_, h⟩ := zc_lt_x h
      refine lv_iinc (v := v10) (lv' := [(1, .int v10), (0, .ref (zg_q G 40)), (2, .long v7)]) C.1 C.2.1 dX11_filters_82 hl (k := 1) rfl (by subst e_; rfl) (by decide) rfl (fun ls hl => ?_)
      clear e_
      refine lv_goto (tgt := 2) C.1 C.2.1 dX11_filters_85 (by decide) ?_
      exact ih _ _ h _ _ _ w (lv_sub hl [1, 0] rfl)
set_option maxHeartbeats 4000000 in
set_option maxRecDepth 100000 in
theorem zm_X11_filters (l : Launch) (G : zg_T) (S : zs_T) (S1 : zs_T) (h : zf_X11_filters S = some S1) : Met l yX11_filters (Cond.code yX11_filters cX11_filters 6 none :: zt_G) zr_m_X11_filters (va_Pc [.ref (zg_q G 40)] (zg_P G S)) (zg_Q G none S1) 0 0 (zg_A G) := by
  refine zx_met (by decide +kernel) (Nat.le_of_ble_eq_true rfl) (lv := [(0, .ref (zg_q G 40))]) rfl ?_
  intro p e s m below meth c C hr w ls hl
  replace C : zx_C p s m _ meth c G RX11 cX11_filters 6 := C
  unfold zf_X11_filters at h
  refine lv_iconst (v := 0) C.1 C.2.1 dX11_filters_0 (by decide) ?_
  refine lv_istore_n (lv' := [(1, .int (0 : Int32)), (0, .ref (zg_q G 40))]) C.1 C.2.1 dX11_filters_1 rfl hl (by decide) rfl (fun ls hl => ?_)
  obtain ⟨S11, hc, h⟩ := zc_b1_x h
  refine zk_X11_filters_2 C S11 (fun H locs ls w hl => ?_) _ _ _ hc _ _ _ w (lv_sub hl [1, 0] rfl)
  clear hc
  exact zr_retv C w hr dX11_filters_88 (Option.some.inj h)
set_option maxHeartbeats 4000000 in
set_option maxRecDepth 100000 in
theorem zk_X11_ofHeight_51 {p : Program} {l : Launch} {e : Env} {s : State} {m : MethodId} {args : Array Value} {below : List Frame} {meth : Method} {c : Code} {G : zg_T} {Q : State → Prop} (C : zx_C p s m args meth c G RX11 cX11_ofHeight 2) (oS : zs_T) (kont : ∀ (H : Heap) (locs : List Loc) (ls : Array Slot), zg_W G oS s H locs → lv_has ls 2 [(0, .ref (zg_q G 40))] → W p l e zr_m_X11_ofHeight s m args below meth c H locs 0 0 Q (F0 m 85 ls [])) : ∀ (n : Nat) (S : zs_T), zl_1 (zb_X11_ofHeight_51) n S = some oS → ∀ (H : Heap) (locs : List Loc) (ls : Array Slot), zg_W G S s H locs → lv_has ls 2 [(0, .ref (zg_q G 40))] → W p l e zr_m_X11_ofHeight s m args below meth c H locs 0 0 Q (F0 m 51 ls []) := by
  intro n
  induction n with
  | zero => intro S h; cases h
  | succ n ih =>
    intro S h H locs ls w hl
    replace h : zb_X11_ofHeight_51 (zl_1 (zb_X11_ofHeight_51) n) S = some oS := h
    generalize zl_1 (zb_X11_ofHeight_51) n = rec at ih h
    unfold zb_X11_ofHeight_51 at h
    refine lv_aload_n C.1 C.2.1 dX11_ofHeight_51 rfl (lv_at hl 0 rfl) ?_
    refine zr_get C w 40 zm_w_X11 (zw_g40 G _) rfl 29 (by decide) zm_f_X11_182 rfl dX11_ofHeight_52 ?_
    refine lv_bipush (v := 8) C.1 C.2.1 dX11_ofHeight_55 (by decide) ?_
    refine zr_ic_ge (tgt := 85) C dX11_ofHeight_57 (by decide) h (fun h => ?_) (fun h => ?_)
    · cases h
      exact kont _ _ _ w (lv_sub hl [0] rfl)
    · refine lv_aload_n C.1 C.2.1 dX11_ofHeight_60 rfl (lv_at hl 0 rfl) ?_
      refine lv_iconst (v := 2) C.1 C.2.1 dX11_ofHeight_61 (by decide) ?_
      refine lv_aload_n C.1 C.2.1 dX11_ofHeight_62 rfl (lv_at hl 0 rfl) ?_
      refine zr_get C w 40 zm_w_X11 (zw_g40 G _) rfl 29 (by decide) zm_f_X11_182 rfl dX11_ofHeight_63 ?_
      refine lv_imul C.1 C.2.1 dX11_ofHeight_66 ?_
      refine lv_iconst (v := 1) C.1 C.2.1 dX11_ofHeight_67 (by decide) ?_
      refine lv_iadd C.1 C.2.1 dX11_ofHeight_68 ?_
      refine zr_put C w 40 zm_w_X11 tyX11 tyX11_ok nmX11 (zw_g40 G _) rfl 29 (by decide) zm_f_X11_182 rfl (ty := .int) (by decide +kernel) rfl rfl (Nat.le_of_ble_eq_true rfl) (zw_f40_29 G _ _) dX11_ofHeight_69 h (fun S3 H locs w h => ?_)
      refine lv_aload_n C.1 C.2.1 dX11_ofHeight_72 rfl (lv_at hl 0 rfl) ?_
      refine lv_dup C.1 C.2.1 dX11_ofHeight_73 rfl ?_
      refine zr_get C w 40 zm_w_X11 (zw_g40 G _) rfl 28 (by decide) zm_f_X11_179 rfl dX11_ofHeight_74 ?_
      refine lv_iconst (v := 1) C.1 C.2.1 dX11_ofHeight_77 (by decide) ?_
      refine lv_isub C.1 C.2.1 dX11_ofHeight_78 ?_
      refine zr_put C w 40 zm_w_X11 tyX11 tyX11_ok nmX11 (zw_g40 G _) rfl 28 (by decide) zm_f_X11_179 rfl (ty := .int) (by decide +kernel) rfl rfl (Nat.le_of_ble_eq_true rfl) (zw_f40_28 G _ _) dX11_ofHeight_79 h (fun S4 H locs w h => ?_)
      refine lv_goto (tgt := 51) C.1 C.2.1 dX11_ofHeight_82 (by decide) ?_
      exact ih _ h _ _ _ w (lv_sub hl [0] rfl)
set_option maxHeartbeats 4000000 in
set_option maxRecDepth 100000 in
theorem zq_X11_ofHeight_16 {p : Program} {l : Launch} {e : Env} {s : State} {m : MethodId} {args : Array Value} {below : List Frame} {meth : Method} {c : Code} {G : zg_T} (hr : meth.sig.returnType = none) (C : zx_C p s m args meth c G RX11 cX11_ofHeight 2) (S1 : zs_T) (S : zs_T) (y1 : Int32) (z0 : Int32) (h : zj_X11_ofHeight_16 S y1 z0 = some S1) (H : Heap) (locs : List Loc) (ls : Array Slot) (w : zg_W G S s H locs) (hl : lv_has ls 2 [(0, .ref (zg_q G 40)), (1, .int y1)]) : W p l e zr_m_X11_ofHeight s m args below meth c H locs 0 0 (MQ below (zg_Q G none S1) args s 0 0 (zg_A G)) (F0 m 16 ls [.int z0, .ref (zg_q G 40)]) := by
  unfold zj_X11_ofHeight_16 at h
  refine zr_put C w 40 zm_w_X11 tyX11 tyX11_ok nmX11 (zw_g40 G _) rfl 28 (by decide) zm_f_X11_179 rfl (ty := .int) (by decide +kernel) rfl rfl (Nat.le_of_ble_eq_true rfl) (zw_f40_28 G _ _) dX11_ofHeight_16 h (fun S1 H locs w h => ?_)
  refine lv_aload_n C.1 C.2.1 dX11_ofHeight_19 rfl (lv_at hl 0 rfl) ?_
  refine lv_iload_n C.1 C.2.1 dX11_ofHeight_20 rfl (lv_at hl 1 rfl) ?_
  refine lv_bipush (v := 8) C.1 C.2.1 dX11_ofHeight_21 (by decide) ?_
  refine lv_aload_n C.1 C.2.1 dX11_ofHeight_23 rfl (lv_at hl 0 rfl) ?_
  refine zr_get C w 40 zm_w_X11 (zw_g40 G _) rfl 28 (by decide) zm_f_X11_179 rfl dX11_ofHeight_24 ?_
  refine lv_imul C.1 C.2.1 dX11_ofHeight_27 ?_
  refine lv_isub C.1 C.2.1 dX11_ofHeight_28 ?_
  refine zr_put C w 40 zm_w_X11 tyX11 tyX11_ok nmX11 (zw_g40 G _) rfl 29 (by decide) zm_f_X11_182 rfl (ty := .int) (by decide +kernel) rfl rfl (Nat.le_of_ble_eq_true rfl) (zw_f40_29 G _ _) dX11_ofHeight_29 h (fun S2 H locs w h => ?_)
  refine lv_aload_n C.1 C.2.1 dX11_ofHeight_32 rfl (lv_at hl 0 rfl) ?_
  refine zr_get C w 40 zm_w_X11 (zw_g40 G _) rfl 29 (by decide) zm_f_X11_182 rfl dX11_ofHeight_33 ?_
  refine zr_if_ne (tgt := 51) C dX11_ofHeight_36 (by decide) h (fun h => ?_) (fun h => ?_)
  · obtain ⟨S5, hc, h⟩ := zc_b1_x h
    refine zk_X11_ofHeight_51 C S5 (fun H locs ls w hl => ?_) _ _ hc _ _ _ w (lv_sub hl [0] rfl)
    clear hc
    refine lv_aload_n C.1 C.2.1 dX11_ofHeight_85 rfl (lv_at hl 0 rfl) ?_
    refine lv_dup C.1 C.2.1 dX11_ofHeight_86 rfl ?_
    refine zr_get C w 40 zm_w_X11 (zw_g40 G _) rfl 29 (by decide) zm_f_X11_182 rfl dX11_ofHeight_87 ?_
    refine lv_bipush (v := 8) C.1 C.2.1 dX11_ofHeight_90 (by decide) ?_
    refine lv_isub C.1 C.2.1 dX11_ofHeight_92 ?_
    refine zr_put C w 40 zm_w_X11 tyX11 tyX11_ok nmX11 (zw_g40 G _) rfl 29 (by decide) zm_f_X11_182 rfl (ty := .int) (by decide +kernel) rfl rfl (Nat.le_of_ble_eq_true rfl) (zw_f40_29 G _ _) dX11_ofHeight_93 h (fun S6 H locs w h => ?_)
    exact zr_retv C w hr dX11_ofHeight_96 (Option.some.inj h)
  · refine lv_aload_n C.1 C.2.1 dX11_ofHeight_39 rfl (lv_at hl 0 rfl) ?_
    refine lv_bipush (v := -4) C.1 C.2.1 dX11_ofHeight_40 (by decide) ?_
    refine zr_put C w 40 zm_w_X11 tyX11 tyX11_ok nmX11 (zw_g40 G _) rfl 28 (by decide) zm_f_X11_179 rfl (ty := .int) (by decide +kernel) rfl rfl (Nat.le_of_ble_eq_true rfl) (zw_f40_28 G _ _) dX11_ofHeight_42 h (fun S7 H locs w h => ?_)
    refine lv_aload_n C.1 C.2.1 dX11_ofHeight_45 rfl (lv_at hl 0 rfl) ?_
    refine lv_bipush (v := 15) C.1 C.2.1 dX11_ofHeight_46 (by decide) ?_
    refine zr_put C w 40 zm_w_X11 tyX11 tyX11_ok nmX11 (zw_g40 G _) rfl 29 (by decide) zm_f_X11_182 rfl (ty := .int) (by decide +kernel) rfl rfl (Nat.le_of_ble_eq_true rfl) (zw_f40_29 G _ _) dX11_ofHeight_48 h (fun S8 H locs w h => ?_)
    obtain ⟨S9, hc, h⟩ := zc_b1_x h
    refine zk_X11_ofHeight_51 C S9 (fun H locs ls w hl => ?_) _ _ hc _ _ _ w (lv_sub hl [0] rfl)
    clear hc
    refine lv_aload_n C.1 C.2.1 dX11_ofHeight_85 rfl (lv_at hl 0 rfl) ?_
    refine lv_dup C.1 C.2.1 dX11_ofHeight_86 rfl ?_
    refine zr_get C w 40 zm_w_X11 (zw_g40 G _) rfl 29 (by decide) zm_f_X11_182 rfl dX11_ofHeight_87 ?_
    refine lv_bipush (v := 8) C.1 C.2.1 dX11_ofHeight_90 (by decide) ?_
    refine lv_isub C.1 C.2.1 dX11_ofHeight_92 ?_
    refine zr_put C w 40 zm_w_X11 tyX11 tyX11_ok nmX11 (zw_g40 G _) rfl 29 (by decide) zm_f_X11_182 rfl (ty := .int) (by decide +kernel) rfl rfl (Nat.le_of_ble_eq_true rfl) (zw_f40_29 G _ _) dX11_ofHeight_93 h (fun S10 H locs w h => ?_)
    exact zr_retv C w hr dX11_ofHeight_96 (Option.some.inj h)
set_option maxHeartbeats 4000000 in
set_option maxRecDepth 100000 in
theorem zm_X11_ofHeight (l : Launch) (G : zg_T) (S : zs_T) (a1 : Int32) (S1 : zs_T) (h : zf_X11_ofHeight S a1 = some S1) : Met l yX11_ofHeight (Cond.code yX11_ofHeight cX11_ofHeight 2 none :: zt_G) zr_m_X11_ofHeight (va_Pc [.ref (zg_q G 40), .int a1] (zg_P G S)) (zg_Q G none S1) 0 0 (zg_A G) := by
  refine zx_met (by decide +kernel) (Nat.le_of_ble_eq_true rfl) (lv := [(0, .ref (zg_q G 40)), (1, .int a1)]) rfl ?_
  intro p e s m below meth c C hr w ls hl
  replace C : zx_C p s m _ meth c G RX11 cX11_ofHeight 2 := C
  unfold zf_X11_ofHeight at h
  refine lv_aload_n C.1 C.2.1 dX11_ofHeight_0 rfl (lv_at hl 0 rfl) ?_
  refine lv_iload_n C.1 C.2.1 dX11_ofHeight_1 rfl (lv_at hl 1 rfl) ?_
  refine lv_bipush (v := 15) C.1 C.2.1 dX11_ofHeight_2 (by decide) ?_
  refine zr_ic_le (tgt := 15) C dX11_ofHeight_4 (by decide) h (fun h => ?_) (fun h => ?_)
  · refine lv_iconst (v := 0) C.1 C.2.1 dX11_ofHeight_15 (by decide) ?_
    exact zq_X11_ofHeight_16 hr C _ _ _ _ h _ _ _ w (lv_sub hl [0, 1] rfl)
  · refine lv_iload_n C.1 C.2.1 dX11_ofHeight_7 rfl (lv_at hl 1 rfl) ?_
    refine lv_iconst (v := 3) C.1 C.2.1 dX11_ofHeight_8 (by decide) ?_
    refine lv_ishr C.1 C.2.1 dX11_ofHeight_9 ?_
    refine lv_iconst (v := 1) C.1 C.2.1 dX11_ofHeight_10 (by decide) ?_
    refine lv_isub C.1 C.2.1 dX11_ofHeight_11 ?_
    refine lv_goto (tgt := 16) C.1 C.2.1 dX11_ofHeight_12 (by decide) ?_
    exact zq_X11_ofHeight_16 hr C _ _ _ _ h _ _ _ w (lv_sub hl [0, 1] rfl)
set_option maxHeartbeats 4000000 in
set_option maxRecDepth 100000 in
theorem zm_X11_tableR (l : Launch) (G : zg_T) (S : zs_T) (a1 : Int32) (r : Int32) (h : zf_X11_tableR a1 = r) : Met l yX11_tableR (Cond.code yX11_tableR cX11_tableR 1 (some .int) :: zt_G) zr_m_X11_tableR (va_Pc [.int a1] (zg_P G S)) (zg_Q G (some (.int r)) S) 0 0 (zg_A G) := by
  refine zx_met (by decide +kernel) (Nat.le_of_ble_eq_true rfl) (lv := [(0, .int a1)]) rfl ?_
  intro p e s m below meth c C hr w ls hl
  replace C : zx_C p s m _ meth c G RX11 cX11_tableR 1 := C
  unfold zf_X11_tableR at h
  refine lv_iload_n C.1 C.2.1 dX11_tableR_0 rfl (lv_at hl 0 rfl) ?_
  by_cases c0 : a1 = (0 : Int32)
  · replace h := (if_pos c0).symm.trans h
    refine lv_tableIn (tgt := 44) C.1 C.2.1 dX11_tableR_1 (by rw [c0]; decide) (by rw [c0]; decide) (by rw [c0]; rfl) (by decide) ?_
    refine lv_sipush (v := 29128) C.1 C.2.1 dX11_tableR_44 (by decide) ?_
    exact zr_reti C w hr dX11_tableR_47 h rfl
  replace h := (if_neg c0).symm.trans h
  by_cases c1 : a1 = (1 : Int32)
  · replace h := (if_pos c1).symm.trans h
    refine lv_tableIn (tgt := 48) C.1 C.2.1 dX11_tableR_1 (by rw [c1]; decide) (by rw [c1]; decide) (by rw [c1]; rfl) (by decide) ?_
    refine lv_sipush (v := 26215) C.1 C.2.1 dX11_tableR_48 (by decide) ?_
    exact zr_reti C w hr dX11_tableR_51 h rfl
  replace h := (if_neg c1).symm.trans h
  by_cases c2 : a1 = (2 : Int32)
  · replace h := (if_pos c2).symm.trans h
    refine lv_tableIn (tgt := 52) C.1 C.2.1 dX11_tableR_1 (by rw [c2]; decide) (by rw [c2]; decide) (by rw [c2]; rfl) (by decide) ?_
    refine lv_sipush (v := 23832) C.1 C.2.1 dX11_tableR_52 (by decide) ?_
    exact zr_reti C w hr dX11_tableR_55 h rfl
  replace h := (if_neg c2).symm.trans h
  by_cases c3 : a1 = (3 : Int32)
  · replace h := (if_pos c3).symm.trans h
    refine lv_tableIn (tgt := 56) C.1 C.2.1 dX11_tableR_1 (by rw [c3]; decide) (by rw [c3]; decide) (by rw [c3]; rfl) (by decide) ?_
    refine lv_sipush (v := 21846) C.1 C.2.1 dX11_tableR_56 (by decide) ?_
    exact zr_reti C w hr dX11_tableR_59 h rfl
  replace h := (if_neg c3).symm.trans h
  by_cases c4 : a1 = (4 : Int32)
  · replace h := (if_pos c4).symm.trans h
    refine lv_tableIn (tgt := 60) C.1 C.2.1 dX11_tableR_1 (by rw [c4]; decide) (by rw [c4]; decide) (by rw [c4]; rfl) (by decide) ?_
    refine lv_sipush (v := 20165) C.1 C.2.1 dX11_tableR_60 (by decide) ?_
    exact zr_reti C w hr dX11_tableR_63 h rfl
  replace h := (if_neg c4).symm.trans h
  by_cases c5 : a1 = (5 : Int32)
  · replace h := (if_pos c5).symm.trans h
    refine lv_tableIn (tgt := 64) C.1 C.2.1 dX11_tableR_1 (by rw [c5]; decide) (by rw [c5]; decide) (by rw [c5]; rfl) (by decide) ?_
    refine lv_sipush (v := 18725) C.1 C.2.1 dX11_tableR_64 (by decide) ?_
    exact zr_reti C w hr dX11_tableR_67 h rfl
  replace h := (if_neg c5).symm.trans h
  by_cases c6 : a1 = (6 : Int32)
  · replace h := (if_pos c6).symm.trans h
    refine lv_tableIn (tgt := 68) C.1 C.2.1 dX11_tableR_1 (by rw [c6]; decide) (by rw [c6]; decide) (by rw [c6]; rfl) (by decide) ?_
    refine lv_sipush (v := 17476) C.1 C.2.1 dX11_tableR_68 (by decide) ?_
    exact zr_reti C w hr dX11_tableR_71 h rfl
  replace h := (if_neg c6).symm.trans h
  refine lv_tableOut (tgt := 72) C.1 C.2.1 dX11_tableR_1 (by have q0 := lv_neT (a := 0) c0 rfl; have q1 := lv_neT (a := 1) c1 rfl; have q2 := lv_neT (a := 2) c2 rfl; have q3 := lv_neT (a := 3) c3 rfl; have q4 := lv_neT (a := 4) c4 rfl; have q5 := lv_neT (a := 5) c5 rfl; have q6 := lv_neT (a := 6) c6 rfl; omega) (by decide) ?_
  refine lv_sipush (v := 16384) C.1 C.2.1 dX11_tableR_72 (by decide) ?_
  exact zr_reti C w hr dX11_tableR_75 h rfl
set_option maxHeartbeats 4000000 in
set_option maxRecDepth 100000 in
theorem zk_X11_tellsPulses_21 {p : Program} {l : Launch} {e : Env} {s : State} {m : MethodId} {args : Array Value} {below : List Frame} {meth : Method} {c : Code} {G : zg_T} {Q : State → Prop} (C : zx_C p s m args meth c G RX11 cX11_tellsPulses 10) (S : zs_T) (f1 : Int32) (f2 : Int32) (f3 : Int64) (f5 : Int32) (o6 : Int64) (kont : ∀ (H : Heap) (locs : List Loc) (ls : Array Slot), zg_W G S s H locs → lv_has ls 10 [(0, .ref (zg_q G 40)), (1, .int f1), (2, .int f2), (3, .long f3), (5, .int f5), (6, .long o6)] → W p l e zr_m_X11_tellsPulses s m args below meth c H locs 0 0 Q (F0 m 68 ls [])) : ∀ (n : Nat) (x6 : Int64) (x8 : Int32), zl_2 (zb_X11_tellsPulses_21 S f5) n x6 x8 = some o6 → ∀ (H : Heap) (locs : List Loc) (ls : Array Slot), zg_W G S s H locs → lv_has ls 10 [(0, .ref (zg_q G 40)), (1, .int f1), (2, .int f2), (3, .long f3), (5, .int f5), (6, .long x6), (8, .int x8)] → W p l e zr_m_X11_tellsPulses s m args below meth c H locs 0 0 Q (F0 m 21 ls []) := by
  intro n
  induction n with
  | zero => intro x6 x8 h; cases h
  | succ n ih =>
    intro x6 x8 h H locs ls w hl
    replace h : zb_X11_tellsPulses_21 S f5 (zl_2 (zb_X11_tellsPulses_21 S f5) n) x6 x8 = some o6 := h
    generalize zl_2 (zb_X11_tellsPulses_21 S f5) n = rec at ih h
    unfold zb_X11_tellsPulses_21 at h
    refine lv_iload C.1 C.2.1 dX11_tellsPulses_21 (lv_at hl 6 rfl) ?_
    refine lv_bipush (v := 13) C.1 C.2.1 dX11_tellsPulses_23 (by decide) ?_
    refine zr_ic_ge (tgt := 68) C dX11_tellsPulses_25 (by decide) h (fun h => ?_) (fun h => ?_)
    · cases h
      exact kont _ _ _ w (lv_sub hl [0, 1, 2, 3, 4, 5] rfl)
    · refine lv_lload C.1 C.2.1 dX11_tellsPulses_28 (lv_at hl 5 rfl) ?_
      refine lv_aload_n C.1 C.2.1 dX11_tellsPulses_30 rfl (lv_at hl 0 rfl) ?_
      refine zr_get C w 40 zm_w_X11 (zw_g40 G _) rfl 21 (by decide) zm_f_X11_48 rfl dX11_tellsPulses_31 ?_
      refine lv_iload C.1 C.2.1 dX11_tellsPulses_34 (lv_at hl 4 rfl) ?_
      refine lv_iconst (v := 3) C.1 C.2.1 dX11_tellsPulses_36 (by decide) ?_
      refine lv_iload C.1 C.2.1 dX11_tellsPulses_37 (lv_at hl 6 rfl) ?_
      refine lv_imul C.1 C.2.1 dX11_tellsPulses_39 ?_
      refine lv_iadd C.1 C.2.1 dX11_tellsPulses_40 ?_
      refine zr_lald C w 52 (zw_g52 G _) dX11_tellsPulses_41 h (fun h => ?_)
      refine lv_iconst (v := 2) C.1 C.2.1 dX11_tellsPulses_42 (by decide) ?_
      refine lv_lshr C.1 C.2.1 dX11_tellsPulses_43 rfl ?_
      refine lv_aload_n C.1 C.2.1 dX11_tellsPulses_44 rfl (lv_at hl 0 rfl) ?_
      refine zr_get C w 40 zm_w_X11 (zw_g40 G _) rfl 21 (by decide) zm_f_X11_48 rfl dX11_tellsPulses_45 ?_
      refine lv_iload C.1 C.2.1 dX11_tellsPulses_48 (lv_at hl 4 rfl) ?_
      refine lv_iconst (v := 3) C.1 C.2.1 dX11_tellsPulses_50 (by decide) ?_
      refine lv_iload C.1 C.2.1 dX11_tellsPulses_51 (lv_at hl 6 rfl) ?_
      refine lv_imul C.1 C.2.1 dX11_tellsPulses_53 ?_
      refine lv_iadd C.1 C.2.1 dX11_tellsPulses_54 ?_
      refine zr_lald C w 52 (zw_g52 G _) dX11_tellsPulses_55 h (fun h => ?_)
      refine lv_iconst (v := 2) C.1 C.2.1 dX11_tellsPulses_56 (by decide) ?_
      refine lv_lshr C.1 C.2.1 dX11_tellsPulses_57 rfl ?_
      refine lv_lmul C.1 C.2.1 dX11_tellsPulses_58 ?_
      refine lv_ladd C.1 C.2.1 dX11_tellsPulses_59 ?_
      refine zr_ltl h (fun v1 h => ?_)
      refine lv_lstore (lv' := [(6, .long v1), (0, .ref (zg_q G 40)), (1, .int f1), (2, .int f2), (3, .long f3), (5, .int f5), (8, .int x8)]) C.1 C.2.1 dX11_tellsPulses_60 hl (by decide) rfl (fun ls hl => ?_)
      obtain ⟨v2, e_, h⟩ := zc_lt_x h
      refine lv_iinc (v := v2) (lv' := [(8, .int v2), (6, .long v1), (0, .ref (zg_q G 40)), (1, .int f1), (2, .int f2), (3, .long f3), (5, .int f5)]) C.1 C.2.1 dX11_tellsPulses_62 hl (k := 6) rfl (by subst e_; rfl) (by decide) rfl (fun ls hl => ?_)
      clear e_
      refine lv_goto (tgt := 21) C.1 C.2.1 dX11_tellsPulses_65 (by decide) ?_
      exact ih _ _ h _ _ _ w (lv_sub hl [2, 3, 4, 5, 6, 1, 0] rfl)
set_option maxHeartbeats 4000000 in
set_option maxRecDepth 100000 in
theorem zk_X11_tellsPulses_9 {p : Program} {l : Launch} {e : Env} {s : State} {m : MethodId} {args : Array Value} {below : List Frame} {meth : Method} {c : Code} {G : zg_T} {Q : State → Prop} (C : zx_C p s m args meth c G RX11 cX11_tellsPulses 10) (S : zs_T) (f1 : Int32) (o2 : Int32) (kont : ∀ (H : Heap) (locs : List Loc) (ls : Array Slot), zg_W G S s H locs → lv_has ls 10 [(0, .ref (zg_q G 40)), (1, .int f1), (2, .int o2)] → W p l e zr_m_X11_tellsPulses s m args below meth c H locs 0 0 Q (F0 m 87 ls [])) : ∀ (n : Nat) (x2 : Int32) (x3 : Int64) (x5 : Int32), zl_3 (zb_X11_tellsPulses_9 S) n x2 x3 x5 = some o2 → ∀ (H : Heap) (locs : List Loc) (ls : Array Slot), zg_W G S s H locs → lv_has ls 10 [(0, .ref (zg_q G 40)), (1, .int f1), (2, .int x2), (3, .long x3), (5, .int x5)] → W p l e zr_m_X11_tellsPulses s m args below meth c H locs 0 0 Q (F0 m 9 ls []) := by
  intro n
  induction n with
  | zero => intro x2 x3 x5 h; cases h
  | succ n ih =>
    intro x2 x3 x5 h H locs ls w hl
    replace h : zb_X11_tellsPulses_9 S (zl_3 (zb_X11_tellsPulses_9 S) n) x2 x3 x5 = some o2 := h
    generalize zl_3 (zb_X11_tellsPulses_9 S) n = rec at ih h
    unfold zb_X11_tellsPulses_9 at h
    refine lv_iload C.1 C.2.1 dX11_tellsPulses_9 (lv_at hl 4 rfl) ?_
    refine lv_iconst (v := 4) C.1 C.2.1 dX11_tellsPulses_11 (by decide) ?_
    refine zr_ic_ge (tgt := 87) C dX11_tellsPulses_12 (by decide) h (fun h => ?_) (fun h => ?_)
    · cases h
      exact kont _ _ _ w (lv_sub hl [0, 1, 2] rfl)
    · refine lv_lconst (v := 0) C.1 C.2.1 dX11_tellsPulses_15 (by decide) ?_
      refine lv_lstore (lv' := [(6, .long (0 : Int64)), (0, .ref (zg_q G 40)), (1, .int f1), (2, .int x2), (3, .long x3), (5, .int x5)]) C.1 C.2.1 dX11_tellsPulses_16 hl (by decide) rfl (fun ls hl => ?_)
      refine lv_iconst (v := 0) C.1 C.2.1 dX11_tellsPulses_18 (by decide) ?_
      refine lv_istore (lv' := [(8, .int (0 : Int32)), (6, .long (0 : Int64)), (0, .ref (zg_q G 40)), (1, .int f1), (2, .int x2), (3, .long x3), (5, .int x5)]) C.1 C.2.1 dX11_tellsPulses_19 hl (by decide) rfl (fun ls hl => ?_)
      obtain ⟨v3, hc, h⟩ := zc_b1_x h
      refine zk_X11_tellsPulses_21 C _ f1 x2 x3 x5 v3 (fun H locs ls w hl => ?_) _ _ _ hc _ _ _ w (lv_sub hl [2, 3, 4, 5, 6, 1, 0] rfl)
      clear hc
      refine lv_lload C.1 C.2.1 dX11_tellsPulses_68 (lv_at hl 5 rfl) ?_
      refine lv_lload_n C.1 C.2.1 dX11_tellsPulses_70 rfl (lv_at hl 3 rfl) ?_
      refine zr_lc_le (tgt := 81) C dX11_tellsPulses_71 dX11_tellsPulses_72 (by decide) h (fun h => ?_) (fun h => ?_)
      · obtain ⟨v4, e_, h⟩ := zc_lt_x h
        refine lv_iinc (v := v4) (lv' := [(5, .int v4), (0, .ref (zg_q G 40)), (1, .int f1), (2, .int x2), (3, .long x3), (6, .long v3)]) C.1 C.2.1 dX11_tellsPulses_81 hl (k := 4) rfl (by subst e_; rfl) (by decide) rfl (fun ls hl => ?_)
        clear e_
        refine lv_goto (tgt := 9) C.1 C.2.1 dX11_tellsPulses_84 (by decide) ?_
        exact ih _ _ _ h _ _ _ w (lv_sub hl [1, 2, 3, 4, 0] rfl)
      · refine lv_lload C.1 C.2.1 dX11_tellsPulses_75 (lv_at hl 5 rfl) ?_
        refine lv_lstore_n (lv' := [(3, .long v3), (0, .ref (zg_q G 40)), (1, .int f1), (2, .int x2), (5, .int x5), (6, .long v3)]) C.1 C.2.1 dX11_tellsPulses_77 rfl hl (by decide) rfl (fun ls hl => ?_)
        refine lv_iload C.1 C.2.1 dX11_tellsPulses_78 (lv_at hl 4 rfl) ?_
        refine lv_istore_n (lv' := [(2, .int x5), (3, .long v3), (0, .ref (zg_q G 40)), (1, .int f1), (5, .int x5), (6, .long v3)]) C.1 C.2.1 dX11_tellsPulses_80 rfl hl (by decide) rfl (fun ls hl => ?_)
        obtain ⟨v5, e_, h⟩ := zc_lt_x h
        refine lv_iinc (v := v5) (lv' := [(5, .int v5), (2, .int x5), (3, .long v3), (0, .ref (zg_q G 40)), (1, .int f1), (6, .long v3)]) C.1 C.2.1 dX11_tellsPulses_81 hl (k := 4) rfl (by subst e_; rfl) (by decide) rfl (fun ls hl => ?_)
        clear e_
        refine lv_goto (tgt := 9) C.1 C.2.1 dX11_tellsPulses_84 (by decide) ?_
        exact ih _ _ _ h _ _ _ w (lv_sub hl [3, 4, 1, 2, 0] rfl)
set_option maxHeartbeats 4000000 in
set_option maxRecDepth 100000 in
theorem zk_X11_tellsPulses_93 {p : Program} {l : Launch} {e : Env} {s : State} {m : MethodId} {args : Array Value} {below : List Frame} {meth : Method} {c : Code} {G : zg_T} {Q : State → Prop} (C : zx_C p s m args meth c G RX11 cX11_tellsPulses 10) (S : zs_T) (f1 : Int32) (f2 : Int32) (o5 : Int64) (kont : ∀ (H : Heap) (locs : List Loc) (ls : Array Slot), zg_W G S s H locs → lv_has ls 10 [(0, .ref (zg_q G 40)), (1, .int f1), (2, .int f2), (5, .long o5)] → W p l e zr_m_X11_tellsPulses s m args below meth c H locs 0 0 Q (F0 m 147 ls [])) : ∀ (n : Nat) (x5 : Int64) (x7 : Int32), zl_2 (zb_X11_tellsPulses_93 S f2) n x5 x7 = some o5 → ∀ (H : Heap) (locs : List Loc) (ls : Array Slot), zg_W G S s H locs → lv_has ls 10 [(0, .ref (zg_q G 40)), (1, .int f1), (2, .int f2), (5, .long x5), (7, .int x7)] → W p l e zr_m_X11_tellsPulses s m args below meth c H locs 0 0 Q (F0 m 93 ls []) := by
  intro n
  induction n with
  | zero => intro x5 x7 h; cases h
  | succ n ih =>
    intro x5 x7 h H locs ls w hl
    replace h : zb_X11_tellsPulses_93 S f2 (zl_2 (zb_X11_tellsPulses_93 S f2) n) x5 x7 = some o5 := h
    generalize zl_2 (zb_X11_tellsPulses_93 S f2) n = rec at ih h
    unfold zb_X11_tellsPulses_93 at h
    refine lv_iload C.1 C.2.1 dX11_tellsPulses_93 (lv_at hl 4 rfl) ?_
    refine lv_bipush (v := 13) C.1 C.2.1 dX11_tellsPulses_95 (by decide) ?_
    refine zr_ic_ge (tgt := 147) C dX11_tellsPulses_97 (by decide) h (fun h => ?_) (fun h => ?_)
    · cases h
      exact kont _ _ _ w (lv_sub hl [0, 1, 2, 3] rfl)
    · refine lv_aload_n C.1 C.2.1 dX11_tellsPulses_100 rfl (lv_at hl 0 rfl) ?_
      refine zr_get C w 40 zm_w_X11 (zw_g40 G _) rfl 21 (by decide) zm_f_X11_48 rfl dX11_tellsPulses_101 ?_
      refine lv_iload_n C.1 C.2.1 dX11_tellsPulses_104 rfl (lv_at hl 2 rfl) ?_
      refine lv_iconst (v := 3) C.1 C.2.1 dX11_tellsPulses_105 (by decide) ?_
      refine lv_iload C.1 C.2.1 dX11_tellsPulses_106 (lv_at hl 4 rfl) ?_
      refine lv_imul C.1 C.2.1 dX11_tellsPulses_108 ?_
      refine lv_iadd C.1 C.2.1 dX11_tellsPulses_109 ?_
      refine zr_lald C w 52 (zw_g52 G _) dX11_tellsPulses_110 h (fun h => ?_)
      refine zr_callSl C w (As := [.long (S.2 52 (Int32.toNatClampNeg (f2 + ((3 : Int32) * x7))))]) (zm_X11_size l G _ _ _ rfl) zm_c_X11_size zm_l_X11_124 zm_s_X11_size zm_0_X11 zm_d_X11_size ⟨rfl, rfl⟩ ⟨Nat.le_of_ble_eq_true rfl, Nat.le_of_ble_eq_true rfl⟩ hl.1 rfl rfl (Nat.le_of_ble_eq_true rfl) dX11_tellsPulses_111 ⟨Nat.le_of_ble_eq_true rfl, Nat.le_of_ble_eq_true rfl⟩ (fun H locs w => ?_)
      refine zr_ltl h (fun v7 h => ?_)
      refine lv_lload C.1 C.2.1 dX11_tellsPulses_114 (lv_at hl 3 rfl) ?_
      refine zr_lc_le (tgt := 137) C dX11_tellsPulses_116 dX11_tellsPulses_117 (by decide) h (fun h => ?_) (fun h => ?_)
      · refine lv_lload C.1 C.2.1 dX11_tellsPulses_137 (lv_at hl 3 rfl) ?_
        refine lv_lstore (lv' := [(5, .long x5), (0, .ref (zg_q G 40)), (1, .int f1), (2, .int f2), (7, .int x7)]) C.1 C.2.1 dX11_tellsPulses_139 hl (by decide) rfl (fun ls hl => ?_)
        obtain ⟨v8, e_, h⟩ := zc_lt_x h
        refine lv_iinc (v := v8) (lv' := [(7, .int v8), (5, .long x5), (0, .ref (zg_q G 40)), (1, .int f1), (2, .int f2)]) C.1 C.2.1 dX11_tellsPulses_141 hl (k := 4) rfl (by subst e_; rfl) (by decide) rfl (fun ls hl => ?_)
        clear e_
        refine lv_goto (tgt := 93) C.1 C.2.1 dX11_tellsPulses_144 (by decide) ?_
        exact ih _ _ h _ _ _ w (lv_sub hl [2, 3, 4, 1, 0] rfl)
      · refine lv_aload_n C.1 C.2.1 dX11_tellsPulses_120 rfl (lv_at hl 0 rfl) ?_
        refine zr_get C w 40 zm_w_X11 (zw_g40 G _) rfl 21 (by decide) zm_f_X11_48 rfl dX11_tellsPulses_121 ?_
        refine lv_iload_n C.1 C.2.1 dX11_tellsPulses_124 rfl (lv_at hl 2 rfl) ?_
        refine lv_iconst (v := 3) C.1 C.2.1 dX11_tellsPulses_125 (by decide) ?_
        refine lv_iload C.1 C.2.1 dX11_tellsPulses_126 (lv_at hl 4 rfl) ?_
        refine lv_imul C.1 C.2.1 dX11_tellsPulses_128 ?_
        refine lv_iadd C.1 C.2.1 dX11_tellsPulses_129 ?_
        refine zr_lald C w 52 (zw_g52 G _) dX11_tellsPulses_130 h (fun h => ?_)
        refine zr_callSl C w (As := [.long (S.2 52 (Int32.toNatClampNeg (f2 + ((3 : Int32) * x7))))]) (zm_X11_size l G _ _ _ rfl) zm_c_X11_size zm_l_X11_124 zm_s_X11_size zm_0_X11 zm_d_X11_size ⟨rfl, rfl⟩ ⟨Nat.le_of_ble_eq_true rfl, Nat.le_of_ble_eq_true rfl⟩ hl.1 rfl rfl (Nat.le_of_ble_eq_true rfl) dX11_tellsPulses_131 ⟨Nat.le_of_ble_eq_true rfl, Nat.le_of_ble_eq_true rfl⟩ (fun H locs w => ?_)
        refine zr_ltl h (fun v9 h => ?_)
        refine lv_goto (tgt := 139) C.1 C.2.1 dX11_tellsPulses_134 (by decide) ?_
        refine lv_lstore (lv' := [(5, .long v9), (0, .ref (zg_q G 40)), (1, .int f1), (2, .int f2), (7, .int x7)]) C.1 C.2.1 dX11_tellsPulses_139 hl (by decide) rfl (fun ls hl => ?_)
        obtain ⟨v10, e_, h⟩ := zc_lt_x h
        refine lv_iinc (v := v10) (lv' := [(7, .int v10), (5, .long v9), (0, .ref (zg_q G 40)), (1, .int f1), (2, .int f2)]) C.1 C.2.1 dX11_tellsPulses_141 hl (k := 4) rfl (by subst e_; rfl) (by decide) rfl (fun ls hl => ?_)
        clear e_
        refine lv_goto (tgt := 93) C.1 C.2.1 dX11_tellsPulses_144 (by decide) ?_
        exact ih _ _ h _ _ _ w (lv_sub hl [2, 3, 4, 1, 0] rfl)
set_option maxHeartbeats 4000000 in
set_option maxRecDepth 100000 in
theorem zk_X11_tellsPulses_153 {p : Program} {l : Launch} {e : Env} {s : State} {m : MethodId} {args : Array Value} {below : List Frame} {meth : Method} {c : Code} {G : zg_T} {Q : State → Prop} (C : zx_C p s m args meth c G RX11 cX11_tellsPulses 10) (S : zs_T) (f1 : Int32) (f2 : Int32) (f5 : Int64) (o7 : Int32) (kont : ∀ (H : Heap) (locs : List Loc) (ls : Array Slot), zg_W G S s H locs → lv_has ls 10 [(0, .ref (zg_q G 40)), (1, .int f1), (2, .int f2), (5, .long f5), (7, .int o7)] → W p l e zr_m_X11_tellsPulses s m args below meth c H locs 0 0 Q (F0 m 189 ls [])) : ∀ (n : Nat) (x7 : Int32) (x8 : Int32), zl_2 (zb_X11_tellsPulses_153 S f5) n x7 x8 = some o7 → ∀ (H : Heap) (locs : List Loc) (ls : Array Slot), zg_W G S s H locs → lv_has ls 10 [(0, .ref (zg_q G 40)), (1, .int f1), (2, .int f2), (5, .long f5), (7, .int x7), (8, .int x8)] → W p l e zr_m_X11_tellsPulses s m args below meth c H locs 0 0 Q (F0 m 153 ls []) := by
  intro n
  induction n with
  | zero => intro x7 x8 h; cases h
  | succ n ih =>
    intro x7 x8 h H locs ls w hl
    replace h : zb_X11_tellsPulses_153 S f5 (zl_2 (zb_X11_tellsPulses_153 S f5) n) x7 x8 = some o7 := h
    generalize zl_2 (zb_X11_tellsPulses_153 S f5) n = rec at ih h
    unfold zb_X11_tellsPulses_153 at h
    refine lv_iload C.1 C.2.1 dX11_tellsPulses_153 (lv_at hl 5 rfl) ?_
    refine lv_bipush (v := 6) C.1 C.2.1 dX11_tellsPulses_155 (by decide) ?_
    refine zr_ic_ge (tgt := 189) C dX11_tellsPulses_157 (by decide) h (fun h => ?_) (fun h => ?_)
    · cases h
      exact kont _ _ _ w (lv_sub hl [0, 1, 2, 3, 4] rfl)
    · refine lv_iload C.1 C.2.1 dX11_tellsPulses_160 (lv_at hl 4 rfl) ?_
      refine lv_lload C.1 C.2.1 dX11_tellsPulses_162 (lv_at hl 3 rfl) ?_
      refine lv_bipush (v := 9) C.1 C.2.1 dX11_tellsPulses_164 (by decide) ?_
      refine lv_iload C.1 C.2.1 dX11_tellsPulses_166 (lv_at hl 5 rfl) ?_
      refine lv_iadd C.1 C.2.1 dX11_tellsPulses_168 ?_
      refine lv_lshr C.1 C.2.1 dX11_tellsPulses_169 rfl ?_
      refine lv_lconst (v := 0) C.1 C.2.1 dX11_tellsPulses_170 (by decide) ?_
      refine zr_lc_le (tgt := 179) C dX11_tellsPulses_171 dX11_tellsPulses_172 (by decide) h (fun h => ?_) (fun h => ?_)
      · refine lv_iconst (v := 0) C.1 C.2.1 dX11_tellsPulses_179 (by decide) ?_
        refine lv_iadd C.1 C.2.1 dX11_tellsPulses_180 ?_
        refine zr_lti h (fun v12 h => ?_)
        refine lv_istore (lv' := [(7, .int v12), (0, .ref (zg_q G 40)), (1, .int f1), (2, .int f2), (5, .long f5), (8, .int x8)]) C.1 C.2.1 dX11_tellsPulses_181 hl (by decide) rfl (fun ls hl => ?_)
        obtain ⟨v13, e_, h⟩ := zc_lt_x h
        refine lv_iinc (v := v13) (lv' := [(8, .int v13), (7, .int v12), (0, .ref (zg_q G 40)), (1, .int f1), (2, .int f2), (5, .long f5)]) C.1 C.2.1 dX11_tellsPulses_183 hl (k := 5) rfl (by subst e_; rfl) (by decide) rfl (fun ls hl => ?_)
        clear e_
        refine lv_goto (tgt := 153) C.1 C.2.1 dX11_tellsPulses_186 (by decide) ?_
        exact ih _ _ h _ _ _ w (lv_sub hl [2, 3, 4, 5, 1, 0] rfl)
      · refine lv_iconst (v := 1) C.1 C.2.1 dX11_tellsPulses_175 (by decide) ?_
        refine lv_goto (tgt := 180) C.1 C.2.1 dX11_tellsPulses_176 (by decide) ?_
        refine lv_iadd C.1 C.2.1 dX11_tellsPulses_180 ?_
        refine zr_lti h (fun v14 h => ?_)
        refine lv_istore (lv' := [(7, .int v14), (0, .ref (zg_q G 40)), (1, .int f1), (2, .int f2), (5, .long f5), (8, .int x8)]) C.1 C.2.1 dX11_tellsPulses_181 hl (by decide) rfl (fun ls hl => ?_)
        obtain ⟨v15, e_, h⟩ := zc_lt_x h
        refine lv_iinc (v := v15) (lv' := [(8, .int v15), (7, .int v14), (0, .ref (zg_q G 40)), (1, .int f1), (2, .int f2), (5, .long f5)]) C.1 C.2.1 dX11_tellsPulses_183 hl (k := 5) rfl (by subst e_; rfl) (by decide) rfl (fun ls hl => ?_)
        clear e_
        refine lv_goto (tgt := 153) C.1 C.2.1 dX11_tellsPulses_186 (by decide) ?_
        exact ih _ _ h _ _ _ w (lv_sub hl [2, 3, 4, 5, 1, 0] rfl)
set_option maxHeartbeats 4000000 in
set_option maxRecDepth 100000 in
theorem zk_X11_tellsPulses_245 {p : Program} {l : Launch} {e : Env} {s : State} {m : MethodId} {args : Array Value} {below : List Frame} {meth : Method} {c : Code} {G : zg_T} {Q : State → Prop} (C : zx_C p s m args meth c G RX11 cX11_tellsPulses 10) (f2 : Int32) (f8 : Int32) (oS : zs_T) (kont : ∀ (H : Heap) (locs : List Loc) (ls : Array Slot), zg_W G oS s H locs → lv_has ls 10 [] → W p l e zr_m_X11_tellsPulses s m args below meth c H locs 0 0 Q (F0 m 306 ls [])) : ∀ (n : Nat) (S : zs_T) (x9 : Int32), zl_2 (zb_X11_tellsPulses_245 f2 f8) n S x9 = some oS → ∀ (H : Heap) (locs : List Loc) (ls : Array Slot), zg_W G S s H locs → lv_has ls 10 [(0, .ref (zg_q G 40)), (2, .int f2), (8, .int f8), (9, .int x9)] → W p l e zr_m_X11_tellsPulses s m args below meth c H locs 0 0 Q (F0 m 245 ls []) := by
  intro n
  induction n with
  | zero => intro S x9 h; cases h
  | succ n ih =>
    intro S x9 h H locs ls w hl
    replace h : zb_X11_tellsPulses_245 f2 f8 (zl_2 (zb_X11_tellsPulses_245 f2 f8) n) S x9 = some oS := h
    generalize zl_2 (zb_X11_tellsPulses_245 f2 f8) n = rec at ih h
    unfold zb_X11_tellsPulses_245 at h
    refine lv_iload C.1 C.2.1 dX11_tellsPulses_245 (lv_at hl 3 rfl) ?_
    refine lv_bipush (v := 13) C.1 C.2.1 dX11_tellsPulses_247 (by decide) ?_
    refine zr_ic_ge (tgt := 306) C dX11_tellsPulses_249 (by decide) h (fun h => ?_) (fun h => ?_)
    · cases h
      exact kont _ _ _ w (lv_sub hl [] rfl)
    · refine lv_aload_n C.1 C.2.1 dX11_tellsPulses_252 rfl (lv_at hl 0 rfl) ?_
      refine zr_get C w 40 zm_w_X11 (zw_g40 G _) rfl 5 (by decide) zm_f_X11_17 rfl dX11_tellsPulses_253 ?_
      refine lv_iload C.1 C.2.1 dX11_tellsPulses_256 (lv_at hl 2 rfl) ?_
      refine lv_iconst (v := 2) C.1 C.2.1 dX11_tellsPulses_258 (by decide) ?_
      refine lv_iadd C.1 C.2.1 dX11_tellsPulses_259 ?_
      refine lv_iload C.1 C.2.1 dX11_tellsPulses_260 (lv_at hl 3 rfl) ?_
      refine lv_iadd C.1 C.2.1 dX11_tellsPulses_262 ?_
      refine lv_aload_n C.1 C.2.1 dX11_tellsPulses_263 rfl (lv_at hl 0 rfl) ?_
      refine zr_get C w 40 zm_w_X11 (zw_g40 G _) rfl 21 (by decide) zm_f_X11_48 rfl dX11_tellsPulses_264 ?_
      refine lv_iload_n C.1 C.2.1 dX11_tellsPulses_267 rfl (lv_at hl 1 rfl) ?_
      refine lv_iconst (v := 3) C.1 C.2.1 dX11_tellsPulses_268 (by decide) ?_
      refine lv_iload C.1 C.2.1 dX11_tellsPulses_269 (lv_at hl 3 rfl) ?_
      refine lv_imul C.1 C.2.1 dX11_tellsPulses_271 ?_
      refine lv_iadd C.1 C.2.1 dX11_tellsPulses_272 ?_
      refine zr_lald C w 52 (zw_g52 G _) dX11_tellsPulses_273 h (fun h => ?_)
      refine lv_bipush (v := 6) C.1 C.2.1 dX11_tellsPulses_274 (by decide) ?_
      refine lv_aload_n C.1 C.2.1 dX11_tellsPulses_276 rfl (lv_at hl 0 rfl) ?_
      refine zr_get C w 40 zm_w_X11 (zw_g40 G _) rfl 28 (by decide) zm_f_X11_179 rfl dX11_tellsPulses_277 ?_
      refine lv_isub C.1 C.2.1 dX11_tellsPulses_280 ?_
      refine lv_lshl C.1 C.2.1 dX11_tellsPulses_281 rfl ?_
      refine lv_aload_n C.1 C.2.1 dX11_tellsPulses_282 rfl (lv_at hl 0 rfl) ?_
      refine zr_get C w 40 zm_w_X11 (zw_g40 G _) rfl 29 (by decide) zm_f_X11_182 rfl dX11_tellsPulses_283 ?_
      refine zr_callSi C w (As := [.int (S.1 40 29)]) (zm_X11_tableR l G _ _ _ rfl) zm_c_X11_tableR zm_l_X11_191 zm_s_X11_tableR zm_0_X11 zm_d_X11_tableR ⟨rfl, rfl⟩ ⟨Nat.le_of_ble_eq_true rfl, Nat.le_of_ble_eq_true rfl⟩ hl.1 rfl rfl (Nat.le_of_ble_eq_true rfl) dX11_tellsPulses_286 ⟨Nat.le_of_ble_eq_true rfl, Nat.le_of_ble_eq_true rfl⟩ (fun H locs w => ?_)
      refine zr_lti h (fun v21 h => ?_)
      refine lv_i2l C.1 C.2.1 dX11_tellsPulses_289 rfl ?_
      refine zr_callSl C w (As := [.long ((S.2 52 (Int32.toNatClampNeg (f2 + ((3 : Int32) * x9)))) <<< (Int32.toInt64 ((6 : Int32) - (S.1 40 28)) &&& 63)), .long (Int32.toInt64 v21)]) (zm_X11_lower l G _ _ _ _ rfl) zm_c_X11_lower zm_l_X11_149 zm_s_X11_lower zm_0_X11 zm_d_X11_lower ⟨rfl, rfl⟩ ⟨Nat.le_of_ble_eq_true rfl, Nat.le_of_ble_eq_true rfl⟩ hl.1 rfl rfl (Nat.le_of_ble_eq_true rfl) dX11_tellsPulses_290 ⟨Nat.le_of_ble_eq_true rfl, Nat.le_of_ble_eq_true rfl⟩ (fun H locs w => ?_)
      refine zr_ltl h (fun v22 h => ?_)
      refine lv_bipush (v := 12) C.1 C.2.1 dX11_tellsPulses_293 (by decide) ?_
      refine lv_lshr C.1 C.2.1 dX11_tellsPulses_295 rfl ?_
      refine lv_l2i C.1 C.2.1 dX11_tellsPulses_296 rfl ?_
      refine lv_iconst (v := 4) C.1 C.2.1 dX11_tellsPulses_297 (by decide) ?_
      refine lv_iadd C.1 C.2.1 dX11_tellsPulses_298 ?_
      refine zr_iast C w 43 (zw_g43 G _) (zw_s43 G _) dX11_tellsPulses_299 h (fun S23 H locs w h => ?_)
      obtain ⟨v24, e_, h⟩ := zc_lt_x h
      refine lv_iinc (v := v24) (lv' := [(9, .int v24), (0, .ref (zg_q G 40)), (2, .int f2), (8, .int f8)]) C.1 C.2.1 dX11_tellsPulses_300 hl (k := 3) rfl (by subst e_; rfl) (by decide) rfl (fun ls hl => ?_)
      clear e_
      refine lv_goto (tgt := 245) C.1 C.2.1 dX11_tellsPulses_303 (by decide) ?_
      exact ih _ _ h _ _ _ w (lv_sub hl [1, 2, 3, 0] rfl)
set_option maxHeartbeats 4000000 in
set_option maxRecDepth 100000 in
theorem zm_X11_tellsPulses (l : Launch) (G : zg_T) (S : zs_T) (a1 : Int32) (S1 : zs_T) (h : zf_X11_tellsPulses S a1 = some S1) : Met l yX11_tellsPulses (Cond.code yX11_tellsPulses cX11_tellsPulses 10 none :: zt_G) zr_m_X11_tellsPulses (va_Pc [.ref (zg_q G 40), .int a1] (zg_P G S)) (zg_Q G none S1) 0 0 (zg_A G) := by
  refine zx_met (by decide +kernel) (Nat.le_of_ble_eq_true rfl) (lv := [(0, .ref (zg_q G 40)), (1, .int a1)]) rfl ?_
  intro p e s m below meth c C hr w ls hl
  replace C : zx_C p s m _ meth c G RX11 cX11_tellsPulses 10 := C
  unfold zf_X11_tellsPulses at h
  refine lv_iconst (v := 0) C.1 C.2.1 dX11_tellsPulses_0 (by decide) ?_
  refine lv_istore_n (lv' := [(2, .int (0 : Int32)), (0, .ref (zg_q G 40)), (1, .int a1)]) C.1 C.2.1 dX11_tellsPulses_1 rfl hl (by decide) rfl (fun ls hl => ?_)
  refine lv_ldc2 (v := -1) C.1 C.2.1 C.2.2.2.1 (C.2.2.2.2.1 _ zm_k_X11_185) dX11_tellsPulses_2 ?_
  refine lv_lstore_n (lv' := [(3, .long (-1 : Int64)), (2, .int (0 : Int32)), (0, .ref (zg_q G 40)), (1, .int a1)]) C.1 C.2.1 dX11_tellsPulses_5 rfl hl (by decide) rfl (fun ls hl => ?_)
  refine lv_iconst (v := 0) C.1 C.2.1 dX11_tellsPulses_6 (by decide) ?_
  refine lv_istore (lv' := [(5, .int (0 : Int32)), (3, .long (-1 : Int64)), (2, .int (0 : Int32)), (0, .ref (zg_q G 40)), (1, .int a1)]) C.1 C.2.1 dX11_tellsPulses_7 hl (by decide) rfl (fun ls hl => ?_)
  obtain ⟨v6, hc, h⟩ := zc_b1_x h
  refine zk_X11_tellsPulses_9 C _ a1 v6 (fun H locs ls w hl => ?_) _ _ _ _ hc _ _ _ w (lv_sub hl [3, 4, 2, 1, 0] rfl)
  clear hc
  refine lv_lconst (v := 0) C.1 C.2.1 dX11_tellsPulses_87 (by decide) ?_
  refine lv_lstore (lv' := [(5, .long (0 : Int64)), (0, .ref (zg_q G 40)), (1, .int a1), (2, .int v6)]) C.1 C.2.1 dX11_tellsPulses_88 hl (by decide) rfl (fun ls hl => ?_)
  refine lv_iconst (v := 0) C.1 C.2.1 dX11_tellsPulses_90 (by decide) ?_
  refine lv_istore (lv' := [(7, .int (0 : Int32)), (5, .long (0 : Int64)), (0, .ref (zg_q G 40)), (1, .int a1), (2, .int v6)]) C.1 C.2.1 dX11_tellsPulses_91 hl (by decide) rfl (fun ls hl => ?_)
  obtain ⟨v11, hc, h⟩ := zc_b1_x h
  refine zk_X11_tellsPulses_93 C _ a1 v6 v11 (fun H locs ls w hl => ?_) _ _ _ hc _ _ _ w (lv_sub hl [2, 3, 4, 1, 0] rfl)
  clear hc
  refine lv_iconst (v := 0) C.1 C.2.1 dX11_tellsPulses_147 (by decide) ?_
  refine lv_istore (lv' := [(7, .int (0 : Int32)), (0, .ref (zg_q G 40)), (1, .int a1), (2, .int v6), (5, .long v11)]) C.1 C.2.1 dX11_tellsPulses_148 hl (by decide) rfl (fun ls hl => ?_)
  refine lv_iconst (v := 0) C.1 C.2.1 dX11_tellsPulses_150 (by decide) ?_
  refine lv_istore (lv' := [(8, .int (0 : Int32)), (7, .int (0 : Int32)), (0, .ref (zg_q G 40)), (1, .int a1), (2, .int v6), (5, .long v11)]) C.1 C.2.1 dX11_tellsPulses_151 hl (by decide) rfl (fun ls hl => ?_)
  obtain ⟨v16, hc, h⟩ := zc_b1_x h
  refine zk_X11_tellsPulses_153 C _ a1 v6 v11 v16 (fun H locs ls w hl => ?_) _ _ _ hc _ _ _ w (lv_sub hl [2, 3, 4, 5, 1, 0] rfl)
  clear hc
  refine lv_bipush (v := 10) C.1 C.2.1 dX11_tellsPulses_189 (by decide) ?_
  refine lv_bipush (v := 17) C.1 C.2.1 dX11_tellsPulses_191 (by decide) ?_
  refine lv_iload_n C.1 C.2.1 dX11_tellsPulses_193 rfl (lv_at hl 1 rfl) ?_
  refine lv_imul C.1 C.2.1 dX11_tellsPulses_194 ?_
  refine lv_iadd C.1 C.2.1 dX11_tellsPulses_195 ?_
  refine zr_lti h (fun v17 h => ?_)
  refine lv_istore (lv' := [(8, .int v17), (0, .ref (zg_q G 40)), (1, .int a1), (2, .int v6), (5, .long v11), (7, .int v16)]) C.1 C.2.1 dX11_tellsPulses_196 hl (by decide) rfl (fun ls hl => ?_)
  refine lv_aload_n C.1 C.2.1 dX11_tellsPulses_198 rfl (lv_at hl 1 rfl) ?_
  refine zr_get C w 40 zm_w_X11 (zw_g40 G _) rfl 5 (by decide) zm_f_X11_17 rfl dX11_tellsPulses_199 ?_
  refine lv_iload C.1 C.2.1 dX11_tellsPulses_202 (lv_at hl 0 rfl) ?_
  refine lv_iload_n C.1 C.2.1 dX11_tellsPulses_204 rfl (lv_at hl 3 rfl) ?_
  refine zr_iast C w 43 (zw_g43 G _) (zw_s43 G _) dX11_tellsPulses_205 h (fun S18 H locs w h => ?_)
  refine lv_aload_n C.1 C.2.1 dX11_tellsPulses_206 rfl (lv_at hl 1 rfl) ?_
  refine zr_get C w 40 zm_w_X11 (zw_g40 G _) rfl 5 (by decide) zm_f_X11_17 rfl dX11_tellsPulses_207 ?_
  refine lv_iload C.1 C.2.1 dX11_tellsPulses_210 (lv_at hl 0 rfl) ?_
  refine lv_iconst (v := 1) C.1 C.2.1 dX11_tellsPulses_212 (by decide) ?_
  refine lv_iadd C.1 C.2.1 dX11_tellsPulses_213 ?_
  refine lv_lload C.1 C.2.1 dX11_tellsPulses_214 (lv_at hl 4 rfl) ?_
  refine lv_iload C.1 C.2.1 dX11_tellsPulses_216 (lv_at hl 5 rfl) ?_
  refine lv_iconst (v := 5) C.1 C.2.1 dX11_tellsPulses_218 (by decide) ?_
  refine lv_iadd C.1 C.2.1 dX11_tellsPulses_219 ?_
  refine lv_lshr C.1 C.2.1 dX11_tellsPulses_220 rfl ?_
  refine lv_l2i C.1 C.2.1 dX11_tellsPulses_221 rfl ?_
  refine lv_bipush (v := 8) C.1 C.2.1 dX11_tellsPulses_222 (by decide) ?_
  refine lv_iload C.1 C.2.1 dX11_tellsPulses_224 (lv_at hl 5 rfl) ?_
  refine lv_imul C.1 C.2.1 dX11_tellsPulses_226 ?_
  refine lv_iadd C.1 C.2.1 dX11_tellsPulses_227 ?_
  refine zr_iast C w 43 (zw_g43 G _) (zw_s43 G _) dX11_tellsPulses_228 h (fun S19 H locs w h => ?_)
  refine lv_aload_n C.1 C.2.1 dX11_tellsPulses_229 rfl (lv_at hl 1 rfl) ?_
  refine lv_aload_n C.1 C.2.1 dX11_tellsPulses_230 rfl (lv_at hl 1 rfl) ?_
  refine zr_get C w 40 zm_w_X11 (zw_g40 G _) rfl 5 (by decide) zm_f_X11_17 rfl dX11_tellsPulses_231 ?_
  refine lv_iload C.1 C.2.1 dX11_tellsPulses_234 (lv_at hl 0 rfl) ?_
  refine lv_iconst (v := 1) C.1 C.2.1 dX11_tellsPulses_236 (by decide) ?_
  refine lv_iadd C.1 C.2.1 dX11_tellsPulses_237 ?_
  refine zr_iald C w 43 (zw_g43 G _) dX11_tellsPulses_238 h (fun h => ?_)
  obtain ⟨S20, hc, h⟩ := zc_b1_x h
  refine zr_callVv C w 40 (zw_g40 G _) rfl (As := [.int (S19.1 43 (Int32.toNatClampNeg (v17 + (1 : Int32))))]) (zm_X11_ofHeight l G _ _ _ hc) zm_c_X11_ofHeight zm_l_X11_187 zm_i_X11_ofHeight zm_e_X11_ofHeight zm_0_X11 zm_d_X11_ofHeight ⟨rfl, rfl⟩ ⟨Nat.le_of_ble_eq_true rfl, Nat.le_of_ble_eq_true rfl⟩ hl.1 rfl rfl (Nat.le_of_ble_eq_true rfl) dX11_tellsPulses_239 ⟨Nat.le_of_ble_eq_true rfl, Nat.le_of_ble_eq_true rfl⟩ (fun H locs w => ?_)
  clear hc
  refine lv_iconst (v := 0) C.1 C.2.1 dX11_tellsPulses_242 (by decide) ?_
  refine lv_istore (lv' := [(9, .int (0 : Int32)), (8, .int v17), (0, .ref (zg_q G 40)), (1, .int a1), (2, .int v6), (5, .long v11), (7, .int v16)]) C.1 C.2.1 dX11_tellsPulses_243 hl (by decide) rfl (fun ls hl => ?_)
  obtain ⟨S25, hc, h⟩ := zc_b1_x h
  refine zk_X11_tellsPulses_245 C v6 v17 S25 (fun H locs ls w hl => ?_) _ _ _ hc _ _ _ w (lv_sub hl [2, 4, 1, 0] rfl)
  clear hc
  exact zr_retv C w hr dX11_tellsPulses_306 (Option.some.inj h)
