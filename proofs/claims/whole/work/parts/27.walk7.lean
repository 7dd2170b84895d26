set_option maxHeartbeats 4000000 in
set_option maxRecDepth 100000 in
theorem zm_X11_tableG (l : Launch) (G : zg_T) (S : zs_T) (a1 : Int32) (r : Int32) (h : zf_X11_tableG a1 = r) : Met l yX11_tableG (Cond.code yX11_tableG cX11_tableG 1 (some .int) :: zt_G) zr_m_X11_tableG (va_Pc [.int a1] (zg_P G S)) (zg_Q G (some (.int r)) S) 0 0 (zg_A G) := by
  refine zx_met (by decide +kernel) (Nat.le_of_ble_eq_true rfl) (lv := [(0, .int a1)]) rfl ?_
  intro p e s m below meth c C hr w ls hl
  replace C : zx_C p s m _ meth c G RX11 cX11_tableG 1 := C
  unfold zf_X11_tableG at h
  refine lv_iload_n C.1 C.2.1 dX11_tableG_0 rfl (lv_at hl 0 rfl) ?_
  refine zr_if_ne (tgt := 10) C dX11_tableG_1 (by decide) h (fun h => ?_) (fun h => ?_)
  · refine lv_iload_n C.1 C.2.1 dX11_tableG_10 rfl (lv_at hl 0 rfl) ?_
    refine lv_iconst (v := 1) C.1 C.2.1 dX11_tableG_11 (by decide) ?_
    refine zr_ic_ne (tgt := 21) C dX11_tableG_12 (by decide) h (fun h => ?_) (fun h => ?_)
    · refine lv_iload_n C.1 C.2.1 dX11_tableG_21 rfl (lv_at hl 0 rfl) ?_
      refine lv_iconst (v := 2) C.1 C.2.1 dX11_tableG_22 (by decide) ?_
      refine zr_ic_ne (tgt := 32) C dX11_tableG_23 (by decide) h (fun h => ?_) (fun h => ?_)
      · refine lv_sipush (v := 32767) C.1 C.2.1 dX11_tableG_32 (by decide) ?_
        exact zr_reti C w hr dX11_tableG_35 h rfl
      · refine lv_sipush (v := 21299) C.1 C.2.1 dX11_tableG_26 (by decide) ?_
        refine lv_goto (tgt := 35) C.1 C.2.1 dX11_tableG_29 (by decide) ?_
        exact zr_reti C w hr dX11_tableG_35 h rfl
    · refine lv_sipush (v := 11469) C.1 C.2.1 dX11_tableG_15 (by decide) ?_
      refine lv_goto (tgt := 35) C.1 C.2.1 dX11_tableG_18 (by decide) ?_
      exact zr_reti C w hr dX11_tableG_35 h rfl
  · refine lv_sipush (v := 3277) C.1 C.2.1 dX11_tableG_4 (by decide) ?_
    refine lv_goto (tgt := 35) C.1 C.2.1 dX11_tableG_7 (by decide) ?_
    exact zr_reti C w hr dX11_tableG_35 h rfl
set_option maxHeartbeats 4000000 in
set_option maxRecDepth 100000 in
theorem zq_X11_tableH_14 {p : Program} {l : Launch} {e : Env} {s : State} {m : MethodId} {args : Array Value} {below : List Frame} {meth : Method} {c : Code} {G : zg_T} (hr : meth.sig.returnType = (some .int)) (C : zx_C p s m args meth c G RX11 cX11_tableH 2) (r : Int32) (S : zs_T) (z0 : Int32) (h : zj_X11_tableH_14 z0 = r) (H : Heap) (locs : List Loc) (ls : Array Slot) (w : zg_W G S s H locs) (hl : lv_has ls 2 []) : W p l e zr_m_X11_tableH s m args below meth c H locs 0 0 (MQ below (zg_Q G (some (.int r)) S) args s 0 0 (zg_A G)) (F0 m 14 ls [.int z0]) := by
  unfold zj_X11_tableH_14 at h
  refine lv_istore_n (lv' := [(1, .int z0)]) C.1 C.2.1 dX11_tableH_14 rfl hl (by decide) rfl (fun ls hl => ?_)
  refine lv_iload_n C.1 C.2.1 dX11_tableH_15 rfl (lv_at hl 0 rfl) ?_
  refine zr_if_ne (tgt := 25) C dX11_tableH_16 (by decide) h (fun h => ?_) (fun h => ?_)
  · refine lv_iload_n C.1 C.2.1 dX11_tableH_25 rfl (lv_at hl 0 rfl) ?_
    refine lv_iconst (v := 1) C.1 C.2.1 dX11_tableH_26 (by decide) ?_
    refine zr_ic_ne (tgt := 36) C dX11_tableH_27 (by decide) h (fun h => ?_) (fun h => ?_)
    · refine lv_iload_n C.1 C.2.1 dX11_tableH_36 rfl (lv_at hl 0 rfl) ?_
      refine lv_iconst (v := 2) C.1 C.2.1 dX11_tableH_37 (by decide) ?_
      refine zr_ic_ne (tgt := 47) C dX11_tableH_38 (by decide) h (fun h => ?_) (fun h => ?_)
      · refine lv_iload_n C.1 C.2.1 dX11_tableH_47 rfl (lv_at hl 0 rfl) ?_
        refine lv_iconst (v := 3) C.1 C.2.1 dX11_tableH_48 (by decide) ?_
        refine zr_ic_ne (tgt := 56) C dX11_tableH_49 (by decide) h (fun h => ?_) (fun h => ?_)
        · refine lv_iload_n C.1 C.2.1 dX11_tableH_56 rfl (lv_at hl 0 rfl) ?_
          refine lv_iconst (v := 4) C.1 C.2.1 dX11_tableH_57 (by decide) ?_
          refine zr_ic_ne (tgt := 67) C dX11_tableH_58 (by decide) h (fun h => ?_) (fun h => ?_)
          · refine lv_sipush (v := -134) C.1 C.2.1 dX11_tableH_67 (by decide) ?_
            exact zr_reti C w hr dX11_tableH_70 h rfl
          · refine lv_sipush (v := -374) C.1 C.2.1 dX11_tableH_61 (by decide) ?_
            refine lv_goto (tgt := 70) C.1 C.2.1 dX11_tableH_64 (by decide) ?_
            exact zr_reti C w hr dX11_tableH_70 h rfl
        · refine lv_iconst (v := 0) C.1 C.2.1 dX11_tableH_52 (by decide) ?_
          refine lv_goto (tgt := 70) C.1 C.2.1 dX11_tableH_53 (by decide) ?_
          exact zr_reti C w hr dX11_tableH_70 h rfl
      · refine lv_sipush (v := 2054) C.1 C.2.1 dX11_tableH_41 (by decide) ?_
        refine lv_goto (tgt := 70) C.1 C.2.1 dX11_tableH_44 (by decide) ?_
        exact zr_reti C w hr dX11_tableH_70 h rfl
    · refine lv_sipush (v := 5741) C.1 C.2.1 dX11_tableH_30 (by decide) ?_
      refine lv_goto (tgt := 70) C.1 C.2.1 dX11_tableH_33 (by decide) ?_
      exact zr_reti C w hr dX11_tableH_70 h rfl
  · refine lv_sipush (v := 8192) C.1 C.2.1 dX11_tableH_19 (by decide) ?_
    refine lv_goto (tgt := 70) C.1 C.2.1 dX11_tableH_22 (by decide) ?_
    exact zr_reti C w hr dX11_tableH_70 h rfl
set_option maxHeartbeats 4000000 in
set_option maxRecDepth 100000 in
theorem zm_X11_tableH (l : Launch) (G : zg_T) (S : zs_T) (a1 : Int32) (r : Int32) (h : zf_X11_tableH a1 = r) : Met l yX11_tableH (Cond.code yX11_tableH cX11_tableH 2 (some .int) :: zt_G) zr_m_X11_tableH (va_Pc [.int a1] (zg_P G S)) (zg_Q G (some (.int r)) S) 0 0 (zg_A G) := by
  refine zx_met (by decide +kernel) (Nat.le_of_ble_eq_true rfl) (lv := [(0, .int a1)]) rfl ?_
  intro p e s m below meth c C hr w ls hl
  replace C : zx_C p s m _ meth c G RX11 cX11_tableH 2 := C
  unfold zf_X11_tableH at h
  refine lv_iload_n C.1 C.2.1 dX11_tableH_0 rfl (lv_at hl 0 rfl) ?_
  refine lv_iconst (v := 5) C.1 C.2.1 dX11_tableH_1 (by decide) ?_
  refine zr_ic_le (tgt := 11) C dX11_tableH_2 (by decide) h (fun h => ?_) (fun h => ?_)
  · refine lv_iconst (v := 5) C.1 C.2.1 dX11_tableH_11 (by decide) ?_
    refine lv_iload_n C.1 C.2.1 dX11_tableH_12 rfl (lv_at hl 0 rfl) ?_
    refine lv_isub C.1 C.2.1 dX11_tableH_13 ?_
    exact zq_X11_tableH_14 hr C _ _ _ h _ _ _ w (lv_sub hl [] rfl)
  · refine lv_iload_n C.1 C.2.1 dX11_tableH_5 rfl (lv_at hl 0 rfl) ?_
    refine lv_iconst (v := 5) C.1 C.2.1 dX11_tableH_6 (by decide) ?_
    refine lv_isub C.1 C.2.1 dX11_tableH_7 ?_
    refine lv_goto (tgt := 14) C.1 C.2.1 dX11_tableH_8 (by decide) ?_
    exact zq_X11_tableH_14 hr C _ _ _ h _ _ _ w (lv_sub hl [] rfl)
set_option maxHeartbeats 4000000 in
set_option maxRecDepth 100000 in
theorem zq_X11_filters_43 {p : Program} {l : Launch} {e : Env} {s : State} {m : MethodId} {args : Array Value} {below : List Frame} {meth : Method} {c : Code} {G : zg_T} {Q : State → Prop} (C : zx_C p s m args meth c G RX11 cX11_filters 6) (rec : Int64 → Int32 → Option Int64) (S : zs_T) (y1 : Int32) (y4 : Int32) (z0 : Int64) (o2 : Int64) (kont : ∀ (H : Heap) (locs : List Loc) (ls : Array Slot), zg_W G S s H locs → lv_has ls 6 [(0, .ref (zg_q G 40)), (1, .int y1), (2, .long o2)] → W p l e zr_m_X11_filters s m args below meth c H locs 0 0 Q (F0 m 69 ls [])) (ih : ∀ (x2 : Int64) (x4 : Int32), rec x2 x4 = some o2 → ∀ (H : Heap) (locs : List Loc) (ls : Array Slot), zg_W G S s H locs → lv_has ls 6 [(0, .ref (zg_q G 40)), (1, .int y1), (2, .long x2), (4, .int x4)] → W p l e zr_m_X11_filters s m args below meth c H locs 0 0 Q (F0 m 15 ls [])) (h : zj_X11_filters_43 rec S y1 y4 z0 = some o2) (H : Heap) (locs : List Loc) (ls : Array Slot) (w : zg_W G S s H locs) (hl : lv_has ls 6 [(0, .ref (zg_q G 40)), (1, .int y1), (4, .int y4)]) : W p l e zr_m_X11_filters s m args below meth c H locs 0 0 Q (F0 m 43 ls [.long z0]) := by
  unfold zj_X11_filters_43 at h
  refine lv_lconst (v := 0) C.1 C.2.1 dX11_filters_43 (by decide) ?_
  refine lv_goto (tgt := 61) C.1 C.2.1 dX11_filters_44 (by decide) ?_
  refine lv_ladd C.1 C.2.1 dX11_filters_61 ?_
  refine zr_ltl h (fun v2 h => ?_)
  refine lv_lstore_n (lv' := [(2, .long v2), (0, .ref (zg_q G 40)), (1, .int y1), (4, .int y4)]) C.1 C.2.1 dX11_filters_62 rfl hl (by decide) rfl (fun ls hl => ?_)
  obtain ⟨v3, e_, h⟩ := zc_lt_x h
  refine lv_iinc (v := v3) (lv' := [(4, .int v3), (2, .long v2), (0, .ref (zg_q G 40)), (1, .int y1)]) C.1 C.2.1 dX11_filters_63 hl (k := 3) rfl (by subst e_; rfl) (by decide) rfl (fun ls hl => ?_)
  clear e_
  refine lv_goto (tgt := 15) C.1 C.2.1 dX11_filters_66 (by decide) ?_
  exact ih _ _ h _ _ _ w (lv_sub hl [2, 3, 1, 0] rfl)
set_option maxHeartbeats 4000000 in
set_option maxRecDepth 100000 in
theorem zk_X11_filters_15 {p : Program} {l : Launch} {e : Env} {s : State} {m : MethodId} {args : Array Value} {below : List Frame} {meth : Method} {c : Code} {G : zg_T} {Q : State → Prop} (C : zx_C p s m args meth c G RX11 cX11_filters 6) (S : zs_T) (f1 : Int32) (o2 : Int64) (kont : ∀ (H : Heap) (locs : List Loc) (ls : Array Slot), zg_W G S s H locs → lv_has ls 6 [(0, .ref (zg_q G 40)), (1, .int f1), (2, .long o2)] → W p l e zr_m_X11_filters s m args below meth c H locs 0 0 Q (F0 m 69 ls [])) : ∀ (n : Nat) (x2 : Int64) (x4 : Int32), zl_2 (zb_X11_filters_15 S f1) n x2 x4 = some o2 → ∀ (H : Heap) (locs : List Loc) (ls : Array Slot), zg_W G S s H locs → lv_has ls 6 [(0, .ref (zg_q G 40)), (1, .int f1), (2, .long x2), (4, .int x4)] → W p l e zr_m_X11_filters s m args below meth c H locs 0 0 Q (F0 m 15 ls []) := by
  intro n
  induction n with
  | zero => intro x2 x4 h; cases h
  | succ n ih =>
    intro x2 x4 h H locs ls w hl
    replace h : zb_X11_filters_15 S f1 (zl_2 (zb_X11_filters_15 S f1) n) x2 x4 = some o2 := h
    generalize zl_2 (zb_X11_filters_15 S f1) n = rec at ih h
    unfold zb_X11_filters_15 at h
    refine lv_iload C.1 C.2.1 dX11_filters_15 (lv_at hl 3 rfl) ?_
    refine lv_bipush (v := 11) C.1 C.2.1 dX11_filters_17 (by decide) ?_
    refine zr_ic_ge (tgt := 69) C dX11_filters_19 (by decide) h (fun h => ?_) (fun h => ?_)
    · cases h
      exact kont _ _ _ w (lv_sub hl [0, 1, 2] rfl)
    · refine lv_iload_n C.1 C.2.1 dX11_filters_22 rfl (lv_at hl 1 rfl) ?_
      refine lv_iload C.1 C.2.1 dX11_filters_23 (lv_at hl 3 rfl) ?_
      refine lv_iadd C.1 C.2.1 dX11_filters_25 ?_
      refine lv_iconst (v := 5) C.1 C.2.1 dX11_filters_26 (by decide) ?_
      refine lv_isub C.1 C.2.1 dX11_filters_27 ?_
      refine zr_lti h (fun v1 h => ?_)
      refine lv_istore (lv' := [(5, .int v1), (0, .ref (zg_q G 40)), (1, .int f1), (2, .long x2), (4, .int x4)]) C.1 C.2.1 dX11_filters_28 hl (by decide) rfl (fun ls hl => ?_)
      refine lv_lload_n C.1 C.2.1 dX11_filters_30 rfl (lv_at hl 3 rfl) ?_
      refine lv_iload C.1 C.2.1 dX11_filters_31 (lv_at hl 0 rfl) ?_
      refine zr_if_lt (tgt := 43) C dX11_filters_33 (by decide) h (fun h => ?_) (fun h => ?_)
      · exact zq_X11_filters_43 C rec _ _ _ _ _ kont ih h _ _ _ w (lv_sub hl [1, 2, 4] rfl)
      · refine lv_iload C.1 C.2.1 dX11_filters_36 (lv_at hl 0 rfl) ?_
        refine lv_bipush (v := 40) C.1 C.2.1 dX11_filters_38 (by decide) ?_
        refine zr_ic_lt (tgt := 47) C dX11_filters_40 (by decide) h (fun h => ?_) (fun h => ?_)
        · refine lv_iload C.1 C.2.1 dX11_filters_47 (lv_at hl 4 rfl) ?_
          refine zr_callSi C w (As := [.int x4]) (zm_X11_tableH l G _ _ _ rfl) zm_c_X11_tableH zm_l_X11_176 zm_s_X11_tableH zm_0_X11 zm_d_X11_tableH ⟨rfl, rfl⟩ ⟨Nat.le_of_ble_eq_true rfl, Nat.le_of_ble_eq_true rfl⟩ hl.1 rfl rfl (Nat.le_of_ble_eq_true rfl) dX11_filters_49 ⟨Nat.le_of_ble_eq_true rfl, Nat.le_of_ble_eq_true rfl⟩ (fun H locs w => ?_)
          refine zr_lti h (fun v4 h => ?_)
          refine lv_i2l C.1 C.2.1 dX11_filters_52 rfl ?_
          refine lv_aload_n C.1 C.2.1 dX11_filters_53 rfl (lv_at hl 1 rfl) ?_
          refine zr_get C w 40 zm_w_X11 (zw_g40 G _) rfl 20 (by decide) zm_f_X11_45 rfl dX11_filters_54 ?_
          refine lv_iload C.1 C.2.1 dX11_filters_57 (lv_at hl 0 rfl) ?_
          refine zr_lald C w 51 (zw_g51 G _) dX11_filters_59 h (fun h => ?_)
          refine lv_lmul C.1 C.2.1 dX11_filters_60 ?_
          refine lv_ladd C.1 C.2.1 dX11_filters_61 ?_
          refine zr_ltl h (fun v5 h => ?_)
          refine lv_lstore_n (lv' := [(2, .long v5), (5, .int v1), (0, .ref (zg_q G 40)), (1, .int f1), (4, .int x4)]) C.1 C.2.1 dX11_filters_62 rfl hl (by decide) rfl (fun ls hl => ?_)
          obtain ⟨v6, e_, h⟩ := zc_lt_x h
          refine lv_iinc (v := v6) (lv' := [(4, .int v6), (2, .long v5), (5, .int v1), (0, .ref (zg_q G 40)), (1, .int f1)]) C.1 C.2.1 dX11_filters_63 hl (k := 4) rfl (by subst e_; rfl) (by decide) rfl (fun ls hl => ?_)
          clear e_
          refine lv_goto (tgt := 15) C.1 C.2.1 dX11_filters_66 (by decide) ?_
          exact ih _ _ h _ _ _ w (lv_sub hl [3, 4, 1, 0] rfl)
        · exact zq_X11_filters_43 C rec _ _ _ _ _ kont ih h _ _ _ w (lv_sub hl [1, 2, 4] rfl)
set_option maxHeartbeats 4000000 in
set_option maxRecDepth 100000 in
theorem zk_X11_filters_2 {p : Program} {l : Launch} {e : Env} {s : State} {m : MethodId} {args : Array Value} {below : List Frame} {meth : Method} {c : Code} {G : zg_T} {Q : State → Prop} (C : zx_C p s m args meth c G RX11 cX11_filters 6) (oS : zs_T) (kont : ∀ (H : Heap) (locs : List Loc) (ls : Array Slot), zg_W G oS s H locs → lv_has ls 6 [] → W p l e zr_m_X11_filters s m args below meth c H locs 0 0 Q (F0 m 88 ls [])) : ∀ (n : Nat) (S : zs_T) (x1 : Int32), zl_2 (zb_X11_filters_2) n S x1 = some oS → ∀ (H : Heap) (locs : List Loc) (ls : Array Slot), zg_W G S s H locs → lv_has ls 6 [(0, .ref (zg_q G 40)), (1, .int x1)] → W p l e zr_m_X11_filters s m args below meth c H locs 0 0 Q (F0 m 2 ls []) := by
  intro n
  induction n with
  | zero => intro S x1 h; cases h
  | succ n ih =>
    intro S x1 h H locs ls w hl
    replace h : zb_X11_filters_2 (zl_2 (zb_X11_filters_2) n) S x1 = some oS := h
    generalize zl_2 (zb_X11_filters_2) n = rec at ih h
    unfold zb_X11_filters_2 at h
    refine lv_iload_n C.1 C.2.1 dX11_filters_2 rfl (lv_at hl 1 rfl) ?_
    refine lv_bipush (v := 40) C.1 C.2.1 dX11_filters_3 (by decide) ?_
    refine zr_ic_ge (tgt := 88) C dX11_filters_5 (by decide) h (fun h => ?_) (fun h => ?_)
    · cases h
      exact kont _ _ _ w (lv_sub hl [] rfl)
    · refine lv_ldc2 (v := 4096) C.1 C.2.1 C.2.2.2.1 (C.2.2.2.2.1 _ zm_k_X11_174) dX11_filters_8 ?_
      refine lv_lstore_n (lv' := [(2, .long (4096 : Int64)), (0, .ref (zg_q G 40)), (1, .int x1)]) C.1 C.2.1 dX11_filters_11 rfl hl (by decide) rfl (fun ls hl => ?_)
      refine lv_iconst (v := 0) C.1 C.2.1 dX11_filters_12 (by decide) ?_
      refine lv_istore (lv' := [(4, .int (0 : Int32)), (2, .long (4096 : Int64)), (0, .ref (zg_q G 40)), (1, .int x1)]) C.1 C.2.1 dX11_filters_13 hl (by decide) rfl (fun ls hl => ?_)
      obtain ⟨v7, hc, h⟩ := zc_b1_x h
      refine zk_X11_filters_15 C _ x1 v7 (fun H locs ls w hl => ?_) _ _ _ hc _ _ _ w (lv_sub hl [2, 3, 1, 0] rfl)
      clear hc
      refine lv_aload_n C.1 C.2.1 dX11_filters_69 rfl (lv_at hl 0 rfl) ?_
      refine zr_get C w 40 zm_w_X11 (zw_g40 G _) rfl 21 (by decide) zm_f_X11_48 rfl dX11_filters_70 ?_
      refine lv_iload_n C.1 C.2.1 dX11_filters_73 rfl (lv_at hl 1 rfl) ?_
      refine lv_lload_n C.1 C.2.1 dX11_filters_74 rfl (lv_at hl 2 rfl) ?_
      refine lv_bipush (v := 13) C.1 C.2.1 dX11_filters_75 (by decide) ?_
      refine lv_lshr C.1 C.2.1 dX11_filters_77 rfl ?_
      refine zr_callSl C w (As := [.long (v7 >>> (Int32.toInt64 (13 : Int32) &&& 63))]) (zm_X11_cut l G _ _ _ rfl) zm_c_X11_cut zm_l_X11_82 zm_s_X11_cut zm_0_X11 zm_d_X11_cut ⟨rfl, rfl⟩ ⟨Nat.le_of_ble_eq_true rfl, Nat.le_of_ble_eq_true rfl⟩ hl.1 rfl rfl (Nat.le_of_ble_eq_true rfl) dX11_filters_78 ⟨Nat.le_of_ble_eq_true rfl, Nat.le_of_ble_eq_true rfl⟩ (fun H locs w => ?_)
      refine zr_ltl h (fun v8 h => ?_)
      refine zr_last C w 52 (zw_g52 G _) (zw_s52 G _) dX11_filters_81 h (fun S9 H locs w h => ?_)
      obtain ⟨v10, e_, h⟩ := zc_lt_x h
      refine lv_iinc (v := v10) (lv' := [(1, .int v10), (0, .ref (zg_q G 40)), (2, .long v7)]) C.1 C.2.1 dX11_filters_82 hl (k := 1) rfl (by subst e_; rfl) (by decide) rfl (fun ls hl => ?_)
      clear e_
      refine lv_goto (tgt := 2) C.1 C.2.1 dX11_filters_85 (by decide) ?_
      exact ih _ _ h _ _ _ w (lv_sub hl [1, 0] rfl)
set_option maxHeartbeats 4000000 in
set_option maxRecDepth 100000 in
theorem zm_X11_filters (l : Launch) (G : zg_T) (S : zs_T) (S1 : zs_T) (h : zf_X11_filters S = some S1) : Met l yX11_filters (Cond.code yX11_filters cX11_filters 6 none :: zt_G) zr_m_X11_filters (va_Pc [.ref (zg_q G 40)] (zg_P G S)) (zg_Q G none S1) 0 0 (zg_A G) := by
  refine zx_met (by decide +kernel) (Nat.le_of_ble_eq_true rfl) (lv := [(0, .ref (zg_q G 40))]) rfl ?_
  intro p e s m below meth c C hr w ls hl
  replace C : zx_C p s m _ meth c G RX11 cX11_filters 6 := C
  unfold zf_X11_filters at h
  refine lv_iconst (v := 0) C.1 C.2.1 dX11_filters_0 (by decide) ?_
  refine lv_istore_n (lv' := [(1, .int (0 : Int32)), (0, .ref (zg_q G 40))]) C.1 C.2.1 dX11_filters_1 rfl hl (by decide) rfl (fun ls hl => ?_)
  obtain ⟨S11, hc, h⟩ := zc_b1_x h
  refine zk_X11_filters_2 C S11 (fun H locs ls w hl => ?_) _ _ _ hc _ _ _ w (lv_sub hl [1, 0] rfl)
  clear hc
  exact zr_retv C w hr dX11_filters_88 (Option.some.inj h)
set_option maxHeartbeats 4000000 in
set_option maxRecDepth 100000 in
theorem zk_X11_ofHeight_51 {p : Program} {l : Launch} {e : Env} {s : State} {m : MethodId} {args : Array Value} {below : List Frame} {meth : Method} {c : Code} {G : zg_T} {Q : State → Prop} (C : zx_C p s m args meth c G RX11 cX11_ofHeight 2) (oS : zs_T) (kont : ∀ (H : Heap) (locs : List Loc) (ls : Array Slot), zg_W G oS s H locs → lv_has ls 2 [(0, .ref (zg_q G 40))] → W p l e zr_m_X11_ofHeight s m args below meth c H locs 0 0 Q (F0 m 85 ls [])) : ∀ (n : Nat) (S : zs_T), zl_1 (zb_X11_ofHeight_51) n S = some oS → ∀ (H : Heap) (locs : List Loc) (ls : Array Slot), zg_W G S s H locs → lv_has ls 2 [(0, .ref (zg_q G 40))] → W p l e zr_m_X11_ofHeight s m args below meth c H locs 0 0 Q (F0 m 51 ls []) := by
  intro n
  induction n with
  | zero => intro S h; cases h
  | succ n ih =>
    intro S h H locs ls w hl
    replace h : zb_X11_ofHeight_51 (zl_1 (zb_X11_ofHeight_51) n) S = some oS := h
    generalize zl_1 (zb_X11_ofHeight_51) n = rec at ih h
    unfold zb_X11_ofHeight_51 at h
    refine lv_aload_n C.1 C.2.1 dX11_ofHeight_51 rfl (lv_at hl 0 rfl) ?_
    refine zr_get C w 40 zm_w_X11 (zw_g40 G _) rfl 29 (by decide) zm_f_X11_182 rfl dX11_ofHeight_52 ?_
    refine lv_bipush (v := 8) C.1 C.2.1 dX11_ofHeight_55 (by decide) ?_
    refine zr_ic_ge (tgt := 85) C dX11_ofHeight_57 (by decide) h (fun h => ?_) (fun h => ?_)
    · cases h
      exact kont _ _ _ w (lv_sub hl [0] rfl)
    · refine lv_aload_n C.1 C.2.1 dX11_ofHeight_60 rfl (lv_at hl 0 rfl) ?_
      refine lv_iconst (v := 2) C.1 C.2.1 dX11_ofHeight_61 (by decide) ?_
      refine lv_aload_n C.1 C.2.1 dX11_ofHeight_62 rfl (lv_at hl 0 rfl) ?_
      refine zr_get C w 40 zm_w_X11 (zw_g40 G _) rfl 29 (by decide) zm_f_X11_182 rfl dX11_ofHeight_63 ?_
      refine lv_imul C.1 C.2.1 dX11_ofHeight_66 ?_
      refine lv_iconst (v := 1) C.1 C.2.1 dX11_ofHeight_67 (by decide) ?_
      refine lv_iadd C.1 C.2.1 dX11_ofHeight_68 ?_
      refine zr_put C w 40 zm_w_X11 tyX11 tyX11_ok nmX11 (zw_g40 G _) rfl 29 (by decide) zm_f_X11_182 rfl (ty := .int) (by decide +kernel) rfl rfl (Nat.le_of_ble_eq_true rfl) (zw_f40_29 G _ _) dX11_ofHeight_69 h (fun S3 H locs w h => ?_)
      refine lv_aload_n C.1 C.2.1 dX11_ofHeight_72 rfl (lv_at hl 0 rfl) ?_
      refine lv_dup C.1 C.2.1 dX11_ofHeight_73 rfl ?_
      refine zr_get C w 40 zm_w_X11 (zw_g40 G _) rfl 28 (by decide) zm_f_X11_179 rfl dX11_ofHeight_74 ?_
      refine lv_iconst (v := 1) C.1 C.2.1 dX11_ofHeight_77 (by decide) ?_
      refine lv_isub C.1 C.2.1 dX11_ofHeight_78 ?_
      refine zr_put C w 40 zm_w_X11 tyX11 tyX11_ok nmX11 (zw_g40 G _) rfl 28 (by decide) zm_f_X11_179 rfl (ty := .int) (by decide +kernel) rfl rfl (Nat.le_of_ble_eq_true rfl) (zw_f40_28 G _ _) dX11_ofHeight_79 h (fun S4 H locs w h => ?_)
      refine lv_goto (tgt := 51) C.1 C.2.1 dX11_ofHeight_82 (by decide) ?_
      exact ih _ h _ _ _ w (lv_sub hl [0] rfl)
set_option maxHeartbeats 4000000 in
set_option maxRecDepth 100000 in
theorem zq_X11_ofHeight_16 {p : Program} {l : Launch} {e : Env} {s : State} {m : MethodId} {args : Array Value} {below : List Frame} {meth : Method} {c : Code} {G : zg_T} (hr : meth.sig.returnType = none) (C : zx_C p s m args meth c G RX11 cX11_ofHeight 2) (S1 : zs_T) (S : zs_T) (y1 : Int32) (z0 : Int32) (h : zj_X11_ofHeight_16 S y1 z0 = some S1) (H : Heap) (locs : List Loc) (ls : Array Slot) (w : zg_W G S s H locs) (hl : lv_has ls 2 [(0, .ref (zg_q G 40)), (1, .int y1)]) : W p l e zr_m_X11_ofHeight s m args below meth c H locs 0 0 (MQ below (zg_Q G none S1) args s 0 0 (zg_A G)) (F0 m 16 ls [.int z0, .ref (zg_q G 40)]) := by
  unfold zj_X11_ofHeight_16 at h
  refine zr_put C w 40 zm_w_X11 tyX11 tyX11_ok nmX11 (zw_g40 G _) rfl 28 (by decide) zm_f_X11_179 rfl (ty := .int) (by decide +kernel) rfl rfl (Nat.le_of_ble_eq_true rfl) (zw_f40_28 G _ _) dX11_ofHeight_16 h (fun S1 H locs w h => ?_)
  refine lv_aload_n C.1 C.2.1 dX11_ofHeight_19 rfl (lv_at hl 0 rfl) ?_
  refine lv_iload_n C.1 C.2.1 dX11_ofHeight_20 rfl (lv_at hl 1 rfl) ?_
  refine lv_bipush (v := 8) C.1 C.2.1 dX11_ofHeight_21 (by decide) ?_
  refine lv_aload_n C.1 C.2.1 dX11_ofHeight_23 rfl (lv_at hl 0 rfl) ?_
  refine zr_get C w 40 zm_w_X11 (zw_g40 G _) rfl 28 (by decide) zm_f_X11_179 rfl dX11_ofHeight_24 ?_
  refine lv_imul C.1 C.2.1 dX11_ofHeight_27 ?_
  refine lv_isub C.1 C.2.1 dX11_ofHeight_28 ?_
  refine zr_put C w 40 zm_w_X11 tyX11 tyX11_ok nmX11 (zw_g40 G _) rfl 29 (by decide) zm_f_X11_182 rfl (ty := .int) (by decide +kernel) rfl rfl (Nat.le_of_ble_eq_true rfl) (zw_f40_29 G _ _) dX11_ofHeight_29 h (fun S2 H locs w h => ?_)
  refine lv_aload_n C.1 C.2.1 dX11_ofHeight_32 rfl (lv_at hl 0 rfl) ?_
  refine zr_get C w 40 zm_w_X11 (zw_g40 G _) rfl 29 (by decide) zm_f_X11_182 rfl dX11_ofHeight_33 ?_
  refine zr_if_ne (tgt := 51) C dX11_ofHeight_36 (by decide) h (fun h => ?_) (fun h => ?_)
  · obtain ⟨S5, hc, h⟩ := zc_b1_x h
    refine zk_X11_ofHeight_51 C S5 (fun H locs ls w hl => ?_) _ _ hc _ _ _ w (lv_sub hl [0] rfl)
    clear hc
    refine lv_aload_n C.1 C.2.1 dX11_ofHeight_85 rfl (lv_at hl 0 rfl) ?_
    refine lv_dup C.1 C.2.1 dX11_ofHeight_86 rfl ?_
    refine zr_get C w 40 zm_w_X11 (zw_g40 G _) rfl 29 (by decide) zm_f_X11_182 rfl dX11_ofHeight_87 ?_
    refine lv_bipush (v := 8) C.1 C.2.1 dX11_ofHeight_90 (by decide) ?_
    refine lv_isub C.1 C.2.1 dX11_ofHeight_92 ?_
    refine zr_put C w 40 zm_w_X11 tyX11 tyX11_ok nmX11 (zw_g40 G _) rfl 29 (by decide) zm_f_X11_182 rfl (ty := .int) (by decide +kernel) rfl rfl (Nat.le_of_ble_eq_true rfl) (zw_f40_29 G _ _) dX11_ofHeight_93 h (fun S6 H locs w h => ?_)
    exact zr_retv C w hr dX11_ofHeight_96 (Option.some.inj h)
  · refine lv_aload_n C.1 C.2.1 dX11_ofHeight_39 rfl (lv_at hl 0 rfl) ?_
    refine lv_bipush (v := -4) C.1 C.2.1 dX11_ofHeight_40 (by decide) ?_
    refine zr_put C w 40 zm_w_X11 tyX11 tyX11_ok nmX11 (zw_g40 G _) rfl 28 (by decide) zm_f_X11_179 rfl (ty := .int) (by decide +kernel) rfl rfl (Nat.le_of_ble_eq_true rfl) (zw_f40_28 G _ _) dX11_ofHeight_42 h (fun S7 H locs w h => ?_)
    refine lv_aload_n C.1 C.2.1 dX11_ofHeight_45 rfl (lv_at hl 0 rfl) ?_
    refine lv_bipush (v := 15) C.1 C.2.1 dX11_ofHeight_46 (by decide) ?_
    refine zr_put C w 40 zm_w_X11 tyX11 tyX11_ok nmX11 (zw_g40 G _) rfl 29 (by decide) zm_f_X11_182 rfl (ty := .int) (by decide +kernel) rfl rfl (Nat.le_of_ble_eq_true rfl) (zw_f40_29 G _ _) dX11_ofHeight_48 h (fun S8 H locs w h => ?_)
    obtain ⟨S9, hc, h⟩ := zc_b1_x h
    refine zk_X11_ofHeight_51 C S9 (fun H locs ls w hl => ?_) _ _ hc _ _ _ w (lv_sub hl [0] rfl)
    clear hc
    refine lv_aload_n C.1 C.2.1 dX11_ofHeight_85 rfl (lv_at hl 0 rfl) ?_
    refine lv_dup C.1 C.2.1 dX11_ofHeight_86 rfl ?_
    refine zr_get C w 40 zm_w_X11 (zw_g40 G _) rfl 29 (by decide) zm_f_X11_182 rfl dX11_ofHeight_87 ?_
    refine lv_bipush (v := 8) C.1 C.2.1 dX11_ofHeight_90 (by decide) ?_
    refine lv_isub C.1 C.2.1 dX11_ofHeight_92 ?_
    refine zr_put C w 40 zm_w_X11 tyX11 tyX11_ok nmX11 (zw_g40 G _) rfl 29 (by decide) zm_f_X11_182 rfl (ty := .int) (by decide +kernel) rfl rfl (Nat.le_of_ble_eq_true rfl) (zw_f40_29 G _ _) dX11_ofHeight_93 h (fun S10 H locs w h => ?_)
    exact zr_retv C w hr dX11_ofHeight_96 (Option.some.inj h)
set_option maxHeartbeats 4000000 in
set_option maxRecDepth 100000 in
theorem zm_X11_ofHeight (l : Launch) (G : zg_T) (S : zs_T) (a1 : Int32) (S1 : zs_T) (h : zf_X11_ofHeight S a1 = some S1) : Met l yX11_ofHeight (Cond.code yX11_ofHeight cX11_ofHeight 2 none :: zt_G) zr_m_X11_ofHeight (va_Pc [.ref (zg_q G 40), .int a1] (zg_P G S)) (zg_Q G none S1) 0 0 (zg_A G) := by
  refine zx_met (by decide +kernel) (Nat.le_of_ble_eq_true rfl) (lv := [(0, .ref (zg_q G 40)), (1, .int a1)]) rfl ?_
  intro p e s m below meth c C hr w ls hl
  replace C : zx_C p s m _ meth c G RX11 cX11_ofHeight 2 := C
  unfold zf_X11_ofHeight at h
  refine lv_aload_n C.1 C.2.1 dX11_ofHeight_0 rfl (lv_at hl 0 rfl) ?_
  refine lv_iload_n C.1 C.2.1 dX11_ofHeight_1 rfl (lv_at hl 1 rfl) ?_
  refine lv_bipush (v := 15) C.1 C.2.1 dX11_ofHeight_2 (by decide) ?_
  refine zr_ic_le (tgt := 15) C dX11_ofHeight_4 (by decide) h (fun h => ?_) (fun h => ?_)
  · refine lv_iconst (v := 0) C.1 C.2.1 dX11_ofHeight_15 (by decide) ?_
    exact zq_X11_ofHeight_16 hr C _ _ _ _ h _ _ _ w (lv_sub hl [0, 1] rfl)
  · refine lv_iload_n C.1 C.2.1 dX11_ofHeight_7 rfl (lv_at hl 1 rfl) ?_
    refine lv_iconst (v := 3) C.1 C.2.1 dX11_ofHeight_8 (by decide) ?_
    refine lv_ishr C.1 C.2.1 dX11_ofHeight_9 ?_
    refine lv_iconst (v := 1) C.1 C.2.1 dX11_ofHeight_10 (by decide) ?_
    refine lv_isub C.1 C.2.1 dX11_ofHeight_11 ?_
    refine lv_goto (tgt := 16) C.1 C.2.1 dX11_ofHeight_12 (by decide) ?_
    exact zq_X11_ofHeight_16 hr C _ _ _ _ h _ _ _ w (lv_sub hl [0, 1] rfl)
set_option maxHeartbeats 4000000 in
set_option maxRecDepth 100000 in
theorem zm_X11_tableR (l : Launch) (G : zg_T) (S : zs_T) (a1 : Int32) (r : Int32) (h : zf_X11_tableR a1 = r) : Met l yX11_tableR (Cond.code yX11_tableR cX11_tableR 1 (some .int) :: zt_G) zr_m_X11_tableR (va_Pc [.int a1] (zg_P G S)) (zg_Q G (some (.int r)) S) 0 0 (zg_A G) := by
  refine zx_met (by decide +kernel) (Nat.le_of_ble_eq_true rfl) (lv := [(0, .int a1)]) rfl ?_
  intro p e s m below meth c C hr w ls hl
  replace C : zx_C p s m _ meth c G RX11 cX11_tableR 1 := C
  unfold zf_X11_tableR at h
  refine lv_iload_n C.1 C.2.1 dX11_tableR_0 rfl (lv_at hl 0 rfl) ?_
  by_cases c0 : a1 = (0 : Int32)
  · replace h := (if_pos c0).symm.trans h
    refine lv_tableIn (tgt := 44) C.1 C.2.1 dX11_tableR_1 (by rw [c0]; decide) (by rw [c0]; decide) (by rw [c0]; rfl) (by decide) ?_
    refine lv_sipush (v := 29128) C.1 C.2.1 dX11_tableR_44 (by decide) ?_
    exact zr_reti C w hr dX11_tableR_47 h rfl
  replace h := (if_neg c0).symm.trans h
  by_cases c1 : a1 = (1 : Int32)
  · replace h := (if_pos c1).symm.trans h
    refine lv_tableIn (tgt := 48) C.1 C.2.1 dX11_tableR_1 (by rw [c1]; decide) (by rw [c1]; decide) (by rw [c1]; rfl) (by decide) ?_
    refine lv_sipush (v := 26215) C.1 C.2.1 dX11_tableR_48 (by decide) ?_
    exact zr_reti C w hr dX11_tableR_51 h rfl
  replace h := (if_neg c1).symm.trans h
  by_cases c2 : a1 = (2 : Int32)
  · replace h := (if_pos c2).symm.trans h
    refine lv_tableIn (tgt := 52) C.1 C.2.1 dX11_tableR_1 (by rw [c2]; decide) (by rw [c2]; decide) (by rw [c2]; rfl) (by decide) ?_
    refine lv_sipush (v := 23832) C.1 C.2.1 dX11_tableR_52 (by decide) ?_
    exact zr_reti C w hr dX11_tableR_55 h rfl
  replace h := (if_neg c2).symm.trans h
  by_cases c3 : a1 = (3 : Int32)
  · replace h := (if_pos c3).symm.trans h
    refine lv_tableIn (tgt := 56) C.1 C.2.1 dX11_tableR_1 (by rw [c3]; decide) (by rw [c3]; decide) (by rw [c3]; rfl) (by decide) ?_
    refine lv_sipush (v := 21846) C.1 C.2.1 dX11_tableR_56 (by decide) ?_
    exact zr_reti C w hr dX11_tableR_59 h rfl
  replace h := (if_neg c3).symm.trans h
  by_cases c4 : a1 = (4 : Int32)
  · replace h := (if_pos c4).symm.trans h
    refine lv_tableIn (tgt := 60) C.1 C.2.1 dX11_tableR_1 (by rw [c4]; decide) (by rw [c4]; decide) (by rw [c4]; rfl) (by decide) ?_
    refine lv_sipush (v := 20165) C.1 C.2.1 dX11_tableR_60 (by decide) ?_
    exact zr_reti C w hr dX11_tableR_63 h rfl
  replace h := (if_neg c4).symm.trans h
  by_cases c5 : a1 = (5 : Int32)
  · replace h := (if_pos c5).symm.trans h
    refine lv_tableIn (tgt := 64) C.1 C.2.1 dX11_tableR_1 (by rw [c5]; decide) (by rw [c5]; decide) (by rw [c5]; rfl) (by decide) ?_
    refine lv_sipush (v := 18725) C.1 C.2.1 dX11_tableR_64 (by decide) ?_
    exact zr_reti C w hr dX11_tableR_67 h rfl
  replace h := (if_neg c5).symm.trans h
  by_cases c6 : a1 = (6 : Int32)
  · replace h := (if_pos c6).symm.trans h
    refine lv_tableIn (tgt := 68) C.1 C.2.1 dX11_tableR_1 (by rw [c6]; decide) (by rw [c6]; decide) (by rw [c6]; rfl) (by decide) ?_
    refine lv_sipush (v := 17476) C.1 C.2.1 dX11_tableR_68 (by decide) ?_
    exact zr_reti C w hr dX11_tableR_71 h rfl
  replace h := (if_neg c6).symm.trans h
  refine lv_tableOut (tgt := 72) C.1 C.2.1 dX11_tableR_1 (by have q0 := lv_neT (a := 0) c0 rfl; have q1 := lv_neT (a := 1) c1 rfl; have q2 := lv_neT (a := 2) c2 rfl; have q3 := lv_neT (a := 3) c3 rfl; have q4 := lv_neT (a := 4) c4 rfl; have q5 := lv_neT (a := 5) c5 rfl; have q6 := lv_neT (a := 6) c6 rfl; omega) (by decide) ?_
  refine lv_sipush (v := 16384) C.1 C.2.1 dX11_tableR_72 (by decide) ?_
  exact zr_reti C w hr dX11_tableR_75 h rfl
set_option maxHeartbeats 4000000 in
set_option maxRecDepth 100000 in
theorem zk_X11_tellsPulses_21 {p : Program} {l : Launch} {e : Env} {s : State} {m : MethodId} {args : Array Value} {below : List Frame} {meth : Method} {c : Code} {G : zg_T} {Q : State → Prop} (C : zx_C p s m args meth c G RX11 cX11_tellsPulses 10) (S : zs_T) (f1 : Int32) (f2 : Int32) (f3 : Int64) (f5 : Int32) (o6 : Int64) (kont : ∀ (H : Heap) (locs : List Loc) (ls : Array Slot), zg_W G S s H locs → lv_has ls 10 [(0, .ref (zg_q G 40)), (1, .int f1), (2, .int f2), (3, .long f3), (5, .int f5), (6, .long o6)] → W p l e zr_m_X11_tellsPulses s m args below meth c H locs 0 0 Q (F0 m 68 ls [])) : ∀ (n : Nat) (x6 : Int64) (x8 : Int32), zl_2 (zb_X11_tellsPulses_21 S f5) n x6 x8 = some o6 → ∀ (H : Heap) (locs : List Loc) (ls : Array Slot), zg_W G S s H locs → lv_has ls 10 [(0, .ref (zg_q G 40)), (1, .int f1), (2, .int f2), (3, .long f3), (5, .int f5), (6, .long x6), (8, .int x8)] → W p l e zr_m_X11_tellsPulses s m args below meth c H locs 0 0 Q (F0 m 21 ls []) := by
  intro n
  induction n with
  | zero => intro x6 x8 h; cases h
  | succ n ih =>
    intro x6 x8 h H locs ls w hl
    replace h : zb_X11_tellsPulses_21 S f5 (zl_2 (zb_X11_tellsPulses_21 S f5) n) x6 x8 = some o6 := h
    generalize zl_2 (zb_X11_tellsPulses_21 S f5) n = rec at ih h
    unfold zb_X11_tellsPulses_21 at h
    refine lv_iload C.1 C.2.1 dX11_tellsPulses_21 (lv_at hl 6 rfl) ?_
    refine lv_bipush (v := 13) C.1 C.2.1 dX11_tellsPulses_23 (by decide) ?_
    refine zr_ic_ge (tgt := 68) C dX11_tellsPulses_25 (by decide) h (fun h => ?_) (fun h => ?_)
    · cases h
      exact kont _ _ _ w (lv_sub hl [0, 1, 2, 3, 4, 5] rfl)
    · refine lv_lload C.1 C.2.1 dX11_tellsPulses_28 (lv_at hl 5 rfl) ?_
      refine lv_aload_n C.1 C.2.1 dX11_tellsPulses_30 rfl (lv_at hl 0 rfl) ?_
      refine zr_get C w 40 zm_w_X11 (zw_g40 G _) rfl 21 (by decide) zm_f_X11_48 rfl dX11_tellsPulses_31 ?_
      refine lv_iload C.1 C.2.1 dX11_tellsPulses_34 (lv_at hl 4 rfl) ?_
      refine lv_iconst (v := 3) C.1 C.2.1 dX11_tellsPulses_36 (by decide) ?_
      refine lv_iload C.1 C.2.1 dX11_tellsPulses_37 (lv_at hl 6 rfl) ?_
      refine lv_imul C.1 C.2.1 dX11_tellsPulses_39 ?_
      refine lv_iadd C.1 C.2.1 dX11_tellsPulses_40 ?_
      refine zr_lald C w 52 (zw_g52 G _) dX11_tellsPulses_41 h (fun h => ?_)
      refine lv_iconst (v := 2) C.1 C.2.1 dX11_tellsPulses_42 (by decide) ?_
      refine lv_lshr C.1 C.2.1 dX11_tellsPulses_43 rfl ?_
      refine lv_aload_n C.1 C.2.1 dX11_tellsPulses_44 rfl (lv_at hl 0 rfl) ?_
      refine zr_get C w 40 zm_w_X11 (zw_g40 G _) rfl 21 (by decide) zm_f_X11_48 rfl dX11_tellsPulses_45 ?_
      refine lv_iload C.1 C.2.1 dX11_tellsPulses_48 (lv_at hl 4 rfl) ?_
      refine lv_iconst (v := 3) C.1 C.2.1 dX11_tellsPulses_50 (by decide) ?_
      refine lv_iload C.1 C.2.1 dX11_tellsPulses_51 (lv_at hl 6 rfl) ?_
      refine lv_imul C.1 C.2.1 dX11_tellsPulses_53 ?_
      refine lv_iadd C.1 C.2.1 dX11_tellsPulses_54 ?_
      refine zr_lald C w 52 (zw_g52 G _) dX11_tellsPulses_55 h (fun h => ?_)
      refine lv_iconst (v := 2) C.1 C.2.1 dX11_tellsPulses_56 (by decide) ?_
      refine lv_lshr C.1 C.2.1 dX11_tellsPulses_57 rfl ?_
      refine lv_lmul C.1 C.2.1 dX11_tellsPulses_58 ?_
      refine lv_ladd C.1 C.2.1 dX11_tellsPulses_59 ?_
      refine zr_ltl h (fun v1 h => ?_)
      refine lv_lstore (lv' := [(6, .long v1), (0, .ref (zg_q G 40)), (1, .int f1), (2, .int f2), (3, .long f3), (5, .int f5), (8, .int x8)]) C.1 C.2.1 dX11_tellsPulses_60 hl (by decide) rfl (fun ls hl => ?_)
      obtain ⟨v2, e_, h⟩ := zc_lt_x h
      refine lv_iinc (v := v2) (lv' := [(8, .int v2), (6, .long v1), (0, .ref (zg_q G 40)), (1, .int f1), (2, .int f2), (3, .long f3), (5, .int f5)]) C.1 C.2.1 dX11_tellsPulses_62 hl (k := 6) rfl (by subst e_; rfl) (by decide) rfl (fun ls hl => ?_)
      clear e_
      refine lv_goto (tgt := 21) C.1 C.2.1 dX11_tellsPulses_65 (by decide) ?_
      exact ih _ _ h _ _ _ w (lv_sub hl [2, 3, 4, 5, 6, 1, 0] rfl)
set_option maxHeartbeats 4000000 in
set_option maxRecDepth 100000 in
theorem zk_X11_tellsPulses_9 {p : Program} {l : Launch} {e : Env} {s : State} {m : MethodId} {args : Array Value} {below : List Frame} {meth : Method} {c : Code} {G : zg_T} {Q : State → Prop} (C : zx_C p s m args meth c G RX11 cX11_tellsPulses 10) (S : zs_T) (f1 : Int32) (o2 : Int32) (kont : ∀ (H : Heap) (locs : List Loc) (ls : Array Slot), zg_W G S s H locs → lv_has ls 10 [(0, .ref (zg_q G 40)), (1, .int f1), (2, .int o2)] → W p l e zr_m_X11_tellsPulses s m args below meth c H locs 0 0 Q (F0 m 87 ls [])) : ∀ (n : Nat) (x2 : Int32) (x3 : Int64) (x5 : Int32), zl_3 (zb_X11_tellsPulses_9 S) n x2 x3 x5 = some o2 → ∀ (H : Heap) (locs : List Loc) (ls : Array Slot), zg_W G S s H locs → lv_has ls 10 [(0, .ref (zg_q G 40)), (1, .int f1), (2, .int x2), (3, .long x3), (5, .int x5)] → W p l e zr_m_X11_tellsPulses s m args below meth c H locs 0 0 Q (F0 m 9 ls []) := by
  intro n
  induction n with
  | zero => intro x2 x3 x5 h; cases h
  | succ n ih =>
    intro x2 x3 x5 h H locs ls w hl
    replace h : zb_X11_tellsPulses_9 S (zl_3 (zb_X11_tellsPulses_9 S) n) x2 x3 x5 = some o2 := h
    generalize zl_3 (zb_X11_tellsPulses_9 S) n = rec at ih h
    unfold zb_X11_tellsPulses_9 at h
    refine lv_iload C.1 C.2.1 dX11_tellsPulses_9 (lv_at hl 4 rfl) ?_
    refine lv_iconst (v := 4) C.1 C.2.1 dX11_tellsPulses_11 (by decide) ?_
    refine zr_ic_ge (tgt := 87) C dX11_tellsPulses_12 (by decide) h (fun h => ?_) (fun h => ?_)
    · cases h
      exact kont _ _ _ w (lv_sub hl [0, 1, 2] rfl)
    · refine lv_lconst (v := 0) C.1 C.2.1 dX11_tellsPulses_15 (by decide) ?_
      refine lv_lstore (lv' := [(6, .long (0 : Int64)), (0, .ref (zg_q G 40)), (1, .int f1), (2, .int x2), (3, .long x3), (5, .int x5)]) C.1 C.2.1 dX11_tellsPulses_16 hl (by decide) rfl (fun ls hl => ?_)
      refine lv_iconst (v := 0) C.1 C.2.1 dX11_tellsPulses_18 (by decide) ?_
      refine lv_istore (lv' := [(8, .int (0 : Int32)), (6, .long (0 : Int64)), (0, .ref (zg_q G 40)), (1, .int f1), (2, .int x2), (3, .long x3), (5, .int x5)]) C.1 C.2.1 dX11_tellsPulses_19 hl (by decide) rfl (fun ls hl => ?_)
      obtain ⟨v3, hc, h⟩ := zc_b1_x h
      refine zk_X11_tellsPulses_21 C _ f1 x2 x3 x5 v3 (fun H locs ls w hl => ?_) _ _ _ hc _ _ _ w (lv_sub hl [2, 3, 4, 5, 6, 1, 0] rfl)
      clear hc
      refine lv_lload C.1 C.2.1 dX11_tellsPulses_68 (lv_at hl 5 rfl) ?_
      refine lv_lload_n C.1 C.2.1 dX11_tellsPulses_70 rfl (lv_at hl 3 rfl) ?_
      refine zr_lc_le (tgt := 81) C dX11_tellsPulses_71 dX11_tellsPulses_72 (by decide) h (fun h => ?_) (fun h => ?_)
      · obtain ⟨v4, e_, h⟩ := zc_lt_x h
        refine lv_iinc (v := v4) (lv' := [(5, .int v4), (0, .ref (zg_q G 40)), (1, .int f1), (2, .int x2), (3, .long x3), (6, .long v3)]) C.1 C.2.1 dX11_tellsPulses_81 hl (k := 4) rfl (by subst e_; rfl) (by decide) rfl (fun ls hl => ?_)
        clear e_
        refine lv_goto (tgt := 9) C.1 C.2.1 dX11_tellsPulses_84 (by decide) ?_
        exact ih _ _ _ h _ _ _ w (lv_sub hl [1, 2, 3, 4, 0] rfl)
      · refine lv_lload C.1 C.2.1 dX11_tellsPulses_75 (lv_at hl 5 rfl) ?_
        refine lv_lstore_n (lv' := [(3, .long v3), (0, .ref (zg_q G 40)), (1, .int f1), (2, .int x2), (5, .int x5), (6, .long v3)]) C.1 C.2.1 dX11_tellsPulses_77 rfl hl (by decide) rfl (fun ls hl => ?_)
        refine lv_iload C.1 C.2.1 dX11_tellsPulses_78 (lv_at hl 4 rfl) ?_
        refine lv_istore_n (lv' := [(2, .int x5), (3, .long v3), (0, .ref (zg_q G 40)), (1, .int f1), (5, .int x5), (6, .long v3)]) C.1 C.2.1 dX11_tellsPulses_80 rfl hl (by decide) rfl (fun ls hl => ?_)
        obtain ⟨v5, e_, h⟩ := zc_lt_x h
        refine lv_iinc (v := v5) (lv' := [(5, .int v5), (2, .int x5), (3, .long v3), (0, .ref (zg_q G 40)), (1, .int f1), (6, .long v3)]) C.1 C.2.1 dX11_tellsPulses_81 hl (k := 4) rfl (by subst e_; rfl) (by decide) rfl (fun ls hl => ?_)
        clear e_
        refine lv_goto (tgt := 9) C.1 C.2.1 dX11_tellsPulses_84 (by decide) ?_
        exact ih _ _ _ h _ _ _ w (lv_sub hl [3, 4, 1, 2, 0] rfl)
set_option maxHeartbeats 4000000 in
set_option maxRecDepth 100000 in
theorem zk_X11_tellsPulses_93 {p : Program} {l : Launch} {e : Env} {s : State} {m : MethodId} {args : Array Value} {below : List Frame} {meth : Method} {c : Code} {G : zg_T} {Q : State → Prop} (C : zx_C p s m args meth c G RX11 cX11_tellsPulses 10) (S : zs_T) (f1 : Int32) (f2 : Int32) (o5 : Int64) (kont : ∀ (H : Heap) (locs : List Loc) (ls : Array Slot), zg_W G S s H locs → lv_has ls 10 [(0, .ref (zg_q G 40)), (1, .int f1), (2, .int f2), (5, .long o5)] → W p l e zr_m_X11_tellsPulses s m args below meth c H locs 0 0 Q (F0 m 147 ls [])) : ∀ (n : Nat) (x5 : Int64) (x7 : Int32), zl_2 (zb_X11_tellsPulses_93 S f2) n x5 x7 = some o5 → ∀ (H : Heap) (locs : List Loc) (ls : Array Slot), zg_W G S s H locs → lv_has ls 10 [(0, .ref (zg_q G 40)), (1, .int f1), (2, .int f2), (5, .long x5), (7, .int x7)] → W p l e zr_m_X11_tellsPulses s m args below meth c H locs 0 0 Q (F0 m 93 ls []) := by
  intro n
  induction n with
  | zero => intro x5 x7 h; cases h
  | succ n ih =>
    intro x5 x7 h H locs ls w hl
    replace h : zb_X11_tellsPulses_93 S f2 (zl_2 (zb_X11_tellsPulses_93 S f2) n) x5 x7 = some o5 := h
    generalize zl_2 (zb_X11_tellsPulses_93 S f2) n = rec at ih h
    unfold zb_X11_tellsPulses_93 at h
    refine lv_iload C.1 C.2.1 dX11_tellsPulses_93 (lv_at hl 4 rfl) ?_
    refine lv_bipush (v := 13) C.1 C.2.1 dX11_tellsPulses_95 (by decide) ?_
    refine zr_ic_ge (tgt := 147) C dX11_tellsPulses_97 (by decide) h (fun h => ?_) (fun h => ?_)
    · cases h
      exact kont _ _ _ w (lv_sub hl [0, 1, 2, 3] rfl)
    · refine lv_aload_n C.1 C.2.1 dX11_tellsPulses_100 rfl (lv_at hl 0 rfl) ?_
      refine zr_get C w 40 zm_w_X11 (zw_g40 G _) rfl 21 (by decide) zm_f_X11_48 rfl dX11_tellsPulses_101 ?_
      refine lv_iload_n C.1 C.2.1 dX11_tellsPulses_104 rfl (lv_at hl 2 rfl) ?_
      refine lv_iconst (v := 3) C.1 C.2.1 dX11_tellsPulses_105 (by decide) ?_
      refine lv_iload C.1 C.2.1 dX11_tellsPulses_106 (lv_at hl 4 rfl) ?_
      refine lv_imul C.1 C.2.1 dX11_tellsPulses_108 ?_
      refine lv_iadd C.1 C.2.1 dX11_tellsPulses_109 ?_
      refine zr_lald C w 52 (zw_g52 G _) dX11_tellsPulses_110 h (fun h => ?_)
      refine zr_callSl C w (As := [.long (S.2 52 (Int32.toNatClampNeg (f2 + ((3 : Int32) * x7))))]) (zm_X11_size l G _ _ _ rfl) zm_c_X11_size zm_l_X11_124 zm_s_X11_size zm_0_X11 zm_d_X11_size ⟨rfl, rfl⟩ ⟨Nat.le_of_ble_eq_true rfl, Nat.le_of_ble_eq_true rfl⟩ hl.1 rfl rfl (Nat.le_of_ble_eq_true rfl) dX11_tellsPulses_111 ⟨Nat.le_of_ble_eq_true rfl, Nat.le_of_ble_eq_true rfl⟩ (fun H locs w => ?_)
      refine zr_ltl h (fun v7 h => ?_)
      refine lv_lload C.1 C.2.1 dX11_tellsPulses_114 (lv_at hl 3 rfl) ?_
      refine zr_lc_le (tgt := 137) C dX11_tellsPulses_116 dX11_tellsPulses_117 (by decide) h (fun h => ?_) (fun h => ?_)
      · refine lv_lload C.1 C.2.1 dX11_tellsPulses_137 (lv_at hl 3 rfl) ?_
        refine lv_lstore (lv' := [(5, .long x5), (0, .ref (zg_q G 40)), (1, .int f1), (2, .int f2), (7, .int x7)]) C.1 C.2.1 dX11_tellsPulses_139 hl (by decide) rfl (fun ls hl => ?_)
        obtain ⟨v8, e_, h⟩ := zc_lt_x h
        refine lv_iinc (v := v8) (lv' := [(7, .int v8), (5, .long x5), (0, .ref (zg_q G 40)), (1, .int f1), (2, .int f2)]) C.1 C.2.1 dX11_tellsPulses_141 hl (k := 4) rfl (by subst e_; rfl) (by decide) rfl (fun ls hl => ?_)
        clear e_
        refine lv_goto (tgt := 93) C.1 C.2.1 dX11_tellsPulses_144 (by decide) ?_
        exact ih _ _ h _ _ _ w (lv_sub hl [2, 3, 4, 1, 0] rfl)
      · refine lv_aload_n C.1 C.2.1 dX11_tellsPulses_120 rfl (lv_at hl 0 rfl) ?_
        refine zr_get C w 40 zm_w_X11 (zw_g40 G _) rfl 21 (by decide) zm_f_X11_48 rfl dX11_tellsPulses_121 ?_
        refine lv_iload_n C.1 C.2.1 dX11_tellsPulses_124 rfl (lv_at hl 2 rfl) ?_
        refine lv_iconst (v := 3) C.1 C.2.1 dX11_tellsPulses_125 (by decide) ?_
        refine lv_iload C.1 C.2.1 dX11_tellsPulses_126 (lv_at hl 4 rfl) ?_
        refine lv_imul C.1 C.2.1 dX11_tellsPulses_128 ?_
        refine lv_iadd C.1 C.2.1 dX11_tellsPulses_129 ?_
        refine zr_lald C w 52 (zw_g52 G _) dX11_tellsPulses_130 h (fun h => ?_)
        refine zr_callSl C w (As := [.long (S.2 52 (Int32.toNatClampNeg (f2 + ((3 : Int32) * x7))))]) (zm_X11_size l G _ _ _ rfl) zm_c_X11_size zm_l_X11_124 zm_s_X11_size zm_0_X11 zm_d_X11_size ⟨rfl, rfl⟩ ⟨Nat.le_of_ble_eq_true rfl, Nat.le_of_ble_eq_true rfl⟩ hl.1 rfl rfl (Nat.le_of_ble_eq_true rfl) dX11_tellsPulses_131 ⟨Nat.le_of_ble_eq_true rfl, Nat.le_of_ble_eq_true rfl⟩ (fun H locs w => ?_)
        refine zr_ltl h (fun v9 h => ?_)
        refine lv_goto (tgt := 139) C.1 C.2.1 dX11_tellsPulses_134 (by decide) ?_
        refine lv_lstore (lv' := [(5, .long v9), (0, .ref (zg_q G 40)), (1, .int f1), (2, .int f2), (7, .int x7)]) C.1 C.2.1 dX11_tellsPulses_139 hl (by decide) rfl (fun ls hl => ?_)
        obtain ⟨v10, e_, h⟩ := zc_lt_x h
        refine lv_iinc (v := v10) (lv' := [(7, .int v10), (5, .long v9), (0, .ref (zg_q G 40)), (1, .int f1), (2, .int f2)]) C.1 C.2.1 dX11_tellsPulses_141 hl (k := 4) rfl (by subst e_; rfl) (by decide) rfl (fun ls hl => ?_)
        clear e_
        refine lv_goto (tgt := 93) C.1 C.2.1 dX11_tellsPulses_144 (by decide) ?_
        exact ih _ _ h _ _ _ w (lv_sub hl [2, 3, 4, 1, 0] rfl)
set_option maxHeartbeats 4000000 in
set_option maxRecDepth 100000 in
theorem zk_X11_tellsPulses_153 {p : Program} {l : Launch} {e : Env} {s : State} {m : MethodId} {args : Array Value} {below : List Frame} {meth : Method} {c : Code} {G : zg_T} {Q : State → Prop} (C : zx_C p s m args meth c G RX11 cX11_tellsPulses 10) (S : zs_T) (f1 : Int32) (f2 : Int32) (f5 : Int64) (o7 : Int32) (kont : ∀ (H : Heap) (locs : List Loc) (ls : Array Slot), zg_W G S s H locs → lv_has ls 10 [(0, .ref (zg_q G 40)), (1, .int f1), (2, .int f2), (5, .long f5), (7, .int o7)] → W p l e zr_m_X11_tellsPulses s m args below meth c H locs 0 0 Q (F0 m 189 ls [])) : ∀ (n : Nat) (x7 : Int32) (x8 : Int32), zl_2 (zb_X11_tellsPulses_153 S f5) n x7 x8 = some o7 → ∀ (H : Heap) (locs : List Loc) (ls : Array Slot), zg_W G S s H locs → lv_has ls 10 [(0, .ref (zg_q G 40)), (1, .int f1), (2, .int f2), (5, .long f5), (7, .int x7), (8, .int x8)] → W p l e zr_m_X11_tellsPulses s m args below meth c H locs 0 0 Q (F0 m 153 ls []) := by
  intro n
  induction n with
  | zero => intro x7 x8 h; cases h
  | succ n ih =>
    intro x7 x8 h H locs ls w hl
    replace h : zb_X11_tellsPulses_153 S f5 (zl_2 (zb_X11_tellsPulses_153 S f5) n) x7 x8 = some o7 := h
    generalize zl_2 (zb_X11_tellsPulses_153 S f5) n = rec at ih h
    unfold zb_X11_tellsPulses_153 at h
    refine lv_iload C.1 C.2.1 dX11_tellsPulses_153 (lv_at hl 5 rfl) ?_
    refine lv_bipush (v := 6) C.1 C.2.1 dX11_tellsPulses_155 (by decide) ?_
    refine zr_ic_ge (tgt := 189) C dX11_tellsPulses_157 (by decide) h (fun h => ?_) (fun h => ?_)
    · cases h
      exact kont _ _ _ w (lv_sub hl [0, 1, 2, 3, 4] rfl)
    · refine lv_iload C.1 C.2.1 dX11_tellsPulses_160 (lv_at hl 4 rfl) ?_
      refine lv_lload C.1 C.2.1 dX11_tellsPulses_162 (lv_at hl 3 rfl) ?_
      refine lv_bipush (v := 9) C.1 C.2.1 dX11_tellsPulses_164 (by decide) ?_
      refine lv_iload C.1 C.2.1 dX11_tellsPulses_166 (lv_at hl 5 rfl) ?_
      refine lv_iadd C.1 C.2.1 dX11_tellsPulses_168 ?_
      refine lv_lshr C.1 C.2.1 dX11_tellsPulses_169 rfl ?_
      refine lv_lconst (v := 0) C.1 C.2.1 dX11_tellsPulses_170 (by decide) ?_
      refine zr_lc_le (tgt := 179) C dX11_tellsPulses_171 dX11_tellsPulses_172 (by decide) h (fun h => ?_) (fun h => ?_)
      · refine lv_iconst (v := 0) C.1 C.2.1 dX11_tellsPulses_179 (by decide) ?_
        refine lv_iadd C.1 C.2.1 dX11_tellsPulses_180 ?_
        refine zr_lti h (fun v12 h => ?_)
        refine lv_istore (lv' := [(7, .int v12), (0, .ref (zg_q G 40)), (1, .int f1), (2, .int f2), (5, .long f5), (8, .int x8)]) C.1 C.2.1 dX11_tellsPulses_181 hl (by decide) rfl (fun ls hl => ?_)
        obtain ⟨v13, e_, h⟩ := zc_lt_x h
        refine lv_iinc (v := v13) (lv' := [(8, .int v13), (7, .int v12), (0, .ref (zg_q G 40)), (1, .int f1), (2, .int f2), (5, .long f5)]) C.1 C.2.1 dX11_tellsPulses_183 hl (k := 5) rfl (by subst e_; rfl) (by decide) rfl (fun ls hl => ?_)
        clear e_
        refine lv_goto (tgt := 153) C.1 C.2.1 dX11_tellsPulses_186 (by decide) ?_
        exact ih _ _ h _ _ _ w (lv_sub hl [2, 3, 4, 5, 1, 0] rfl)
      · refine lv_iconst (v := 1) C.1 C.2.1 dX11_tellsPulses_175 (by decide) ?_
        refine lv_goto (tgt := 180) C.1 C.2.1 dX11_tellsPulses_176 (by decide) ?_
        refine lv_iadd C.1 C.2.1 dX11_tellsPulses_180 ?_
        refine zr_lti h (fun v14 h => ?_)
        refine lv_istore (lv' := [(7, .int v14), (0, .ref (zg_q G 40)), (1, .int f1), (2, .int f2), (5, .long f5), (8, .int x8)]) C.1 C.2.1 dX11_tellsPulses_181 hl (by decide) rfl (fun ls hl => ?_)
        obtain ⟨v15, e_, h⟩ := zc_lt_x h
        refine lv_iinc (v := v15) (lv' := [(8, .int v15), (7, .int v14), (0, .ref (zg_q G 40)), (1, .int f1), (2, .int f2), (5, .long f5)]) C.1 C.2.1 dX11_tellsPulses_183 hl (k := 5) rfl (by subst e_; rfl) (by decide) rfl (fun ls hl => ?_)
        clear e_
        refine lv_goto (tgt := 153) C.1 C.2.1 dX11_tellsPulses_186 (by decide) ?_
        exact ih _ _ h _ _ _ w (lv_sub hl [2, 3, 4, 5, 1, 0] rfl)
set_option maxHeartbeats 4000000 in
set_option maxRecDepth 100000 in
theorem zk_X11_tellsPulses_245 {p : Program} {l : Launch} {e : Env} {s : State} {m : MethodId} {args : Array Value} {below : List Frame} {meth : Method} {c : Code} {G : zg_T} {Q : State → Prop} (C : zx_C p s m args meth c G RX11 cX11_tellsPulses 10) (f2 : Int32) (f8 : Int32) (oS : zs_T) (kont : ∀ (H : Heap) (locs : List Loc) (ls : Array Slot), zg_W G oS s H locs → lv_has ls 10 [] → W p l e zr_m_X11_tellsPulses s m args below meth c H locs 0 0 Q (F0 m 306 ls [])) : ∀ (n : Nat) (S : zs_T) (x9 : Int32), zl_2 (zb_X11_tellsPulses_245 f2 f8) n S x9 = some oS → ∀ (H : Heap) (locs : List Loc) (ls : Array Slot), zg_W G S s H locs → lv_has ls 10 [(0, .ref (zg_q G 40)), (2, .int f2), (8, .int f8), (9, .int x9)] → W p l e zr_m_X11_tellsPulses s m args below meth c H locs 0 0 Q (F0 m 245 ls []) := by
  intro n
  induction n with
  | zero => intro S x9 h; cases h
  | succ n ih =>
    intro S x9 h H locs ls w hl
    replace h : zb_X11_tellsPulses_245 f2 f8 (zl_2 (zb_X11_tellsPulses_245 f2 f8) n) S x9 = some oS := h
    generalize zl_2 (zb_X11_tellsPulses_245 f2 f8) n = rec at ih h
    unfold zb_X11_tellsPulses_245 at h
    refine lv_iload C.1 C.2.1 dX11_tellsPulses_245 (lv_at hl 3 rfl) ?_
    refine lv_bipush (v := 13) C.1 C.2.1 dX11_tellsPulses_247 (by decide) ?_
    refine zr_ic_ge (tgt := 306) C dX11_tellsPulses_249 (by decide) h (fun h => ?_) (fun h => ?_)
    · cases h
      exact kont _ _ _ w (lv_sub hl [] rfl)
    · refine lv_aload_n C.1 C.2.1 dX11_tellsPulses_252 rfl (lv_at hl 0 rfl) ?_
      refine zr_get C w 40 zm_w_X11 (zw_g40 G _) rfl 5 (by decide) zm_f_X11_17 rfl dX11_tellsPulses_253 ?_
      refine lv_iload C.1 C.2.1 dX11_tellsPulses_256 (lv_at hl 2 rfl) ?_
      refine lv_iconst (v := 2) C.1 C.2.1 dX11_tellsPulses_258 (by decide) ?_
      refine lv_iadd C.1 C.2.1 dX11_tellsPulses_259 ?_
      refine lv_iload C.1 C.2.1 dX11_tellsPulses_260 (lv_at hl 3 rfl) ?_
      refine lv_iadd C.1 C.2.1 dX11_tellsPulses_262 ?_
      refine lv_aload_n C.1 C.2.1 dX11_tellsPulses_263 rfl (lv_at hl 0 rfl) ?_
      refine zr_get C w 40 zm_w_X11 (zw_g40 G _) rfl 21 (by decide) zm_f_X11_48 rfl dX11_tellsPulses_264 ?_
      refine lv_iload_n C.1 C.2.1 dX11_tellsPulses_267 rfl (lv_at hl 1 rfl) ?_
      refine lv_iconst (v := 3) C.1 C.2.1 dX11_tellsPulses_268 (by decide) ?_
      refine lv_iload C.1 C.2.1 dX11_tellsPulses_269 (lv_at hl 3 rfl) ?_
      refine lv_imul C.1 C.2.1 dX11_tellsPulses_271 ?_
      refine lv_iadd C.1 C.2.1 dX11_tellsPulses_272 ?_
      refine zr_lald C w 52 (zw_g52 G _) dX11_tellsPulses_273 h (fun h => ?_)
      refine lv_bipush (v := 6) C.1 C.2.1 dX11_tellsPulses_274 (by decide) ?_
      refine lv_aload_n C.1 C.2.1 dX11_tellsPulses_276 rfl (lv_at hl 0 rfl) ?_
      refine zr_get C w 40 zm_w_X11 (zw_g40 G _) rfl 28 (by decide) zm_f_X11_179 rfl dX11_tellsPulses_277 ?_
      refine lv_isub C.1 C.2.1 dX11_tellsPulses_280 ?_
      refine lv_lshl C.1 C.2.1 dX11_tellsPulses_281 rfl ?_
      refine lv_aload_n C.1 C.2.1 dX11_tellsPulses_282 rfl (lv_at hl 0 rfl) ?_
      refine zr_get C w 40 zm_w_X11 (zw_g40 G _) rfl 29 (by decide) zm_f_X11_182 rfl dX11_tellsPulses_283 ?_
      refine zr_callSi C w (As := [.int (S.1 40 29)]) (zm_X11_tableR l G _ _ _ rfl) zm_c_X11_tableR zm_l_X11_191 zm_s_X11_tableR zm_0_X11 zm_d_X11_tableR ⟨rfl, rfl⟩ ⟨Nat.le_of_ble_eq_true rfl, Nat.le_of_ble_eq_true rfl⟩ hl.1 rfl rfl (Nat.le_of_ble_eq_true rfl) dX11_tellsPulses_286 ⟨Nat.le_of_ble_eq_true rfl, Nat.le_of_ble_eq_true rfl⟩ (fun H locs w => ?_)
      refine zr_lti h (fun v21 h => ?_)
      refine lv_i2l C.1 C.2.1 dX11_tellsPulses_289 rfl ?_
      refine zr_callSl C w (As := [.long ((S.2 52 (Int32.toNatClampNeg (f2 + ((3 : Int32) * x9)))) <<< (Int32.toInt64 ((6 : Int32) - (S.1 40 28)) &&& 63)), .long (Int32.toInt64 v21)]) (zm_X11_lower l G _ _ _ _ rfl) zm_c_X11_lower zm_l_X11_149 zm_s_X11_lower zm_0_X11 zm_d_X11_lower ⟨rfl, rfl⟩ ⟨Nat.le_of_ble_eq_true rfl, Nat.le_of_ble_eq_true rfl⟩ hl.1 rfl rfl (Nat.le_of_ble_eq_true rfl) dX11_tellsPulses_290 ⟨Nat.le_of_ble_eq_true rfl, Nat.le_of_ble_eq_true rfl⟩ (fun H locs w => ?_)
      refine zr_ltl h (fun v22 h => ?_)
      refine lv_bipush (v := 12) C.1 C.2.1 dX11_tellsPulses_293 (by decide) ?_
      refine lv_lshr C.1 C.2.1 dX11_tellsPulses_295 rfl ?_
      refine lv_l2i C.1 C.2.1 dX11_tellsPulses_296 rfl ?_
      refine lv_iconst (v := 4) C.1 C.2.1 dX11_tellsPulses_297 (by decide) ?_
      refine lv_iadd C.1 C.2.1 dX11_tellsPulses_298 ?_
      refine zr_iast C w 43 (zw_g43 G _) (zw_s43 G _) dX11_tellsPulses_299 h (fun S23 H locs w h => ?_)
      obtain ⟨v24, e_, h⟩ := zc_lt_x h
      refine lv_iinc (v := v24) (lv' := [(9, .int v24), (0, .ref (zg_q G 40)), (2, .int f2), (8, .int f8)]) C.1 C.2.1 dX11_tellsPulses_300 hl (k := 3) rfl (by subst e_; rfl) (by decide) rfl (fun ls hl => ?_)
      clear e_
      refine lv_goto (tgt := 245) C.1 C.2.1 dX11_tellsPulses_303 (by decide) ?_
      exact ih _ _ h _ _ _ w (lv_sub hl [1, 2, 3, 0] rfl)
set_option maxHeartbeats 4000000 in
set_option maxRecDepth 100000 in
theorem zm_X11_tellsPulses (l : Launch) (G : zg_T) (S : zs_T) (a1 : Int32) (S1 : zs_T) (h : zf_X11_tellsPulses S a1 = some S1) : Met l yX11_tellsPulses (Cond.code yX11_tellsPulses cX11_tellsPulses 10 none :: zt_G) zr_m_X11_tellsPulses (va_Pc [.ref (zg_q G 40), .int a1] (zg_P G S)) (zg_Q G none S1) 0 0 (zg_A G) := by
  refine zx_met (by decide +kernel) (Nat.le_of_ble_eq_true rfl) (lv := [(0, .ref (zg_q G 40)), (1, .int a1)]) rfl ?_
  intro p e s m below meth c C hr w ls hl
  replace C : zx_C p s m _ meth c G RX11 cX11_tellsPulses 10 := C
  unfold zf_X11_tellsPulses at h
  refine lv_iconst (v := 0) C.1 C.2.1 dX11_tellsPulses_0 (by decide) ?_
  refine lv_istore_n (lv' := [(2, .int (0 : Int32)), (0, .ref (zg_q G 40)), (1, .int a1)]) C.1 C.2.1 dX11_tellsPulses_1 rfl hl (by decide) rfl (fun ls hl => ?_)
  refine lv_ldc2 (v := -1) C.1 C.2.1 C.2.2.2.1 (C.2.2.2.2.1 _ zm_k_X11_185) dX11_tellsPulses_2 ?_
  refine lv_lstore_n (lv' := [(3, .long (-1 : Int64)), (2, .int (0 : Int32)), (0, .ref (zg_q G 40)), (1, .int a1)]) C.1 C.2.1 dX11_tellsPulses_5 rfl hl (by decide) rfl (fun ls hl => ?_)
  refine lv_iconst (v := 0) C.1 C.2.1 dX11_tellsPulses_6 (by decide) ?_
  refine lv_istore (lv' := [(5, .int (0 : Int32)), (3, .long (-1 : Int64)), (2, .int (0 : Int32)), (0, .ref (zg_q G 40)), (1, .int a1)]) C.1 C.2.1 dX11_tellsPulses_7 hl (by decide) rfl (fun ls hl => ?_)
  obtain ⟨v6, hc, h⟩ := zc_b1_x h
  refine zk_X11_tellsPulses_9 C _ a1 v6 (fun H locs ls w hl => ?_) _ _ _ _ hc _ _ _ w (lv_sub hl [3, 4, 2, 1, 0] rfl)
  clear hc
  refine lv_lconst (v := 0) C.1 C.2.1 dX11_tellsPulses_87 (by decide) ?_
  refine lv_lstore (lv' := [(5, .long (0 : Int64)), (0, .ref (zg_q G 40)), (1, .int a1), (2, .int v6)]) C.1 C.2.1 dX11_tellsPulses_88 hl (by decide) rfl (fun ls hl => ?_)
  refine lv_iconst (v := 0) C.1 C.2.1 dX11_tellsPulses_90 (by decide) ?_
  refine lv_istore (lv' := [(7, .int (0 : Int32)), (5, .long (0 : Int64)), (0, .ref (zg_q G 40)), (1, .int a1), (2, .int v6)]) C.1 C.2.1 dX11_tellsPulses_91 hl (by decide) rfl (fun ls hl => ?_)
  obtain ⟨v11, hc, h⟩ := zc_b1_x h
  refine zk_X11_tellsPulses_93 C _ a1 v6 v11 (fun H locs ls w hl => ?_) _ _ _ hc _ _ _ w (lv_sub hl [2, 3, 4, 1, 0] rfl)
  clear hc
  refine lv_iconst (v := 0) C.1 C.2.1 dX11_tellsPulses_147 (by decide) ?_
  refine lv_istore (lv' := [(7, .int (0 : Int32)), (0, .ref (zg_q G 40)), (1, .int a1), (2, .int v6), (5, .long v11)]) C.1 C.2.1 dX11_tellsPulses_148 hl (by decide) rfl (fun ls hl => ?_)
  refine lv_iconst (v := 0) C.1 C.2.1 dX11_tellsPulses_150 (by decide) ?_
  refine lv_istore (lv' := [(8, .int (0 : Int32)), (7, .int (0 : Int32)), (0, .ref (zg_q G 40)), (1, .int a1), (2, .int v6), (5, .long v11)]) C.1 C.2.1 dX11_tellsPulses_151 hl (by decide) rfl (fun ls hl => ?_)
  obtain ⟨v16, hc, h⟩ := zc_b1_x h
  refine zk_X11_tellsPulses_153 C _ a1 v6 v11 v16 (fun H locs ls w hl => ?_) _ _ _ hc _ _ _ w (lv_sub hl [2, 3, 4, 5, 1, 0] rfl)
  clear hc
  refine lv_bipush (v := 10) C.1 C.2.1 dX11_tellsPulses_189 (by decide) ?_
  refine lv_bipush (v := 17) C.1 C.2.1 dX11_tellsPulses_191 (by decide) ?_
  refine lv_iload_n C.1 C.2.1 dX11_tellsPulses_193 rfl (lv_at hl 1 rfl) ?_
  refine lv_imul C.1 C.2.1 dX11_tellsPulses_194 ?_
  refine lv_iadd C.1 C.2.1 dX11_tellsPulses_195 ?_
  refine zr_lti h (fun v17 h => ?_)
  refine lv_istore (lv' := [(8, .int v17), (0, .ref (zg_q G 40)), (1, .int a1), (2, .int v6), (5, .long v11), (7, .int v16)]) C.1 C.2.1 dX11_tellsPulses_196 hl (by decide) rfl (fun ls hl => ?_)
  refine lv_aload_n C.1 C.2.1 dX11_tellsPulses_198 rfl (lv_at hl 1 rfl) ?_
  refine zr_get C w 40 zm_w_X11 (zw_g40 G _) rfl 5 (by decide) zm_f_X11_17 rfl dX11_tellsPulses_199 ?_
  refine lv_iload C.1 C.2.1 dX11_tellsPulses_202 (lv_at hl 0 rfl) ?_
  refine lv_iload_n C.1 C.2.1 dX11_tellsPulses_204 rfl (lv_at hl 3 rfl) ?_
  refine zr_iast C w 43 (zw_g43 G _) (zw_s43 G _) dX11_tellsPulses_205 h (fun S18 H locs w h => ?_)
  refine lv_aload_n C.1 C.2.1 dX11_tellsPulses_206 rfl (lv_at hl 1 rfl) ?_
  refine zr_get C w 40 zm_w_X11 (zw_g40 G _) rfl 5 (by decide) zm_f_X11_17 rfl dX11_tellsPulses_207 ?_
  refine lv_iload C.1 C.2.1 dX11_tellsPulses_210 (lv_at hl 0 rfl) ?_
  refine lv_iconst (v := 1) C.1 C.2.1 dX11_tellsPulses_212 (by decide) ?_
  refine lv_iadd C.1 C.2.1 dX11_tellsPulses_213 ?_
  refine lv_lload C.1 C.2.1 dX11_tellsPulses_214 (lv_at hl 4 rfl) ?_
  refine lv_iload C.1 C.2.1 dX11_tellsPulses_216 (lv_at hl 5 rfl) ?_
  refine lv_iconst (v := 5) C.1 C.2.1 dX11_tellsPulses_218 (by decide) ?_
  refine lv_iadd C.1 C.2.1 dX11_tellsPulses_219 ?_
  refine lv_lshr C.1 C.2.1 dX11_tellsPulses_220 rfl ?_
  refine lv_l2i C.1 C.2.1 dX11_tellsPulses_221 rfl ?_
  refine lv_bipush (v := 8) C.1 C.2.1 dX11_tellsPulses_222 (by decide) ?_
  refine lv_iload C.1 C.2.1 dX11_tellsPulses_224 (lv_at hl 5 rfl) ?_
  refine lv_imul C.1 C.2.1 dX11_tellsPulses_226 ?_
  refine lv_iadd C.1 C.2.1 dX11_tellsPulses_227 ?_
  refine zr_iast C w 43 (zw_g43 G _) (zw_s43 G _) dX11_tellsPulses_228 h (fun S19 H locs w h => ?_)
  refine lv_aload_n C.1 C.2.1 dX11_tellsPulses_229 rfl (lv_at hl 1 rfl) ?_
  refine lv_aload_n C.1 C.2.1 dX11_tellsPulses_230 rfl (lv_at hl 1 rfl) ?_
  refine zr_get C w 40 zm_w_X11 (zw_g40 G _) rfl 5 (by decide) zm_f_X11_17 rfl dX11_tellsPulses_231 ?_
  refine lv_iload C.1 C.2.1 dX11_tellsPulses_234 (lv_at hl 0 rfl) ?_
  refine lv_iconst (v := 1) C.1 C.2.1 dX11_tellsPulses_236 (by decide) ?_
  refine lv_iadd C.1 C.2.1 dX11_tellsPulses_237 ?_
  refine zr_iald C w 43 (zw_g43 G _) dX11_tellsPulses_238 h (fun h => ?_)
  obtain ⟨S20, hc, h⟩ := zc_b1_x h
  refine zr_callVv C w 40 (zw_g40 G _) rfl (As := [.int (S19.1 43 (Int32.toNatClampNeg (v17 + (1 : Int32))))]) (zm_X11_ofHeight l G _ _ _ hc) zm_c_X11_ofHeight zm_l_X11_187 zm_i_X11_ofHeight zm_e_X11_ofHeight zm_0_X11 zm_d_X11_ofHeight ⟨rfl, rfl⟩ ⟨Nat.le_of_ble_eq_true rfl, Nat.le_of_ble_eq_true rfl⟩ hl.1 rfl rfl (Nat.le_of_ble_eq_true rfl) dX11_tellsPulses_239 ⟨Nat.le_of_ble_eq_true rfl, Nat.le_of_ble_eq_true rfl⟩ (fun H locs w => ?_)
  clear hc
  refine lv_iconst (v := 0) C.1 C.2.1 dX11_tellsPulses_242 (by decide) ?_
  refine lv_istore (lv' := [(9, .int (0 : Int32)), (8, .int v17), (0, .ref (zg_q G 40)), (1, .int a1), (2, .int v6), (5, .long v11), (7, .int v16)]) C.1 C.2.1 dX11_tellsPulses_243 hl (by decide) rfl (fun ls hl => ?_)
  obtain ⟨S25, hc, h⟩ := zc_b1_x h
  refine zk_X11_tellsPulses_245 C v6 v17 S25 (fun H locs ls w hl => ?_) _ _ _ hc _ _ _ w (lv_sub hl [2, 4, 1, 0] rfl)
  clear hc
  exact zr_retv C w hr dX11_tellsPulses_306 (Option.some.inj h)
set_option maxHeartbeats 4000000 in
set_option maxRecDepth 100000 in
theorem zm_X11_tableF (l : Launch) (G : zg_T) (S : zs_T) (a1 : Int32) (r : Int32) (h : zf_X11_tableF a1 = r) : Met l yX11_tableF (Cond.code yX11_tableF cX11_tableF 1 (some .int) :: zt_G) zr_m_X11_tableF (va_Pc [.int a1] (zg_P G S)) (zg_Q G (some (.int r)) S) 0 0 (zg_A G) := by
  refine zx_met (by decide +kernel) (Nat.le_of_ble_eq_true rfl) (lv := [(0, .int a1)]) rfl ?_
  intro p e s m below meth c C hr w ls hl
  replace C : zx_C p s m _ meth c G RX11 cX11_tableF 1 := C
  unfold zf_X11_tableF at h
  refine lv_iload_n C.1 C.2.1 dX11_tableF_0 rfl (lv_at hl 0 rfl) ?_
  refine lv_bipush (v := 7) C.1 C.2.1 dX11_tableF_1 (by decide) ?_
  refine zr_ic_ne (tgt := 12) C dX11_tableF_3 (by decide) h (fun h => ?_) (fun h => ?_)
  · refine lv_sipush (v := 18431) C.1 C.2.1 dX11_tableF_12 (by decide) ?_
    refine lv_sipush (v := 2048) C.1 C.2.1 dX11_tableF_15 (by decide) ?_
    refine lv_iload_n C.1 C.2.1 dX11_tableF_18 rfl (lv_at hl 0 rfl) ?_
    refine lv_imul C.1 C.2.1 dX11_tableF_19 ?_
    refine lv_iadd C.1 C.2.1 dX11_tableF_20 ?_
    exact zr_reti C w hr dX11_tableF_21 h rfl
  · refine lv_sipush (v := 32767) C.1 C.2.1 dX11_tableF_6 (by decide) ?_
    refine lv_goto (tgt := 21) C.1 C.2.1 dX11_tableF_9 (by decide) ?_
    exact zr_reti C w hr dX11_tableF_21 h rfl
set_option maxHeartbeats 4000000 in
set_option maxRecDepth 100000 in
theorem zk_X11_makes_31 {p : Program} {l : Launch} {e : Env} {s : State} {m : MethodId} {args : Array Value} {below : List Frame} {meth : Method} {c : Code} {G : zg_T} {Q : State → Prop} (C : zx_C p s m args meth c G RX11 cX11_makes 7) (f2 : Int32) (f3 : Int32) (oS : zs_T) (kont : ∀ (H : Heap) (locs : List Loc) (ls : Array Slot), zg_W G oS s H locs → lv_has ls 7 [(0, .ref (zg_q G 40)), (2, .int f2), (3, .int f3)] → W p l e zr_m_X11_makes s m args below meth c H locs 0 0 Q (F0 m 52 ls [])) : ∀ (n : Nat) (S : zs_T) (x4 : Int32), zl_2 (zb_X11_makes_31) n S x4 = some oS → ∀ (H : Heap) (locs : List Loc) (ls : Array Slot), zg_W G S s H locs → lv_has ls 7 [(0, .ref (zg_q G 40)), (2, .int f2), (3, .int f3), (4, .int x4)] → W p l e zr_m_X11_makes s m args below meth c H locs 0 0 Q (F0 m 31 ls []) := by
  intro n
  induction n with
  | zero => intro S x4 h; cases h
  | succ n ih =>
    intro S x4 h H locs ls w hl
    replace h : zb_X11_makes_31 (zl_2 (zb_X11_makes_31) n) S x4 = some oS := h
    generalize zl_2 (zb_X11_makes_31) n = rec at ih h
    unfold zb_X11_makes_31 at h
    refine lv_iload C.1 C.2.1 dX11_makes_31 (lv_at hl 3 rfl) ?_
    refine lv_bipush (v := 40) C.1 C.2.1 dX11_makes_33 (by decide) ?_
    refine zr_ic_ge (tgt := 52) C dX11_makes_35 (by decide) h (fun h => ?_) (fun h => ?_)
    · cases h
      exact kont _ _ _ w (lv_sub hl [0, 1, 2] rfl)
    · refine lv_aload_n C.1 C.2.1 dX11_makes_38 rfl (lv_at hl 0 rfl) ?_
      refine zr_get C w 40 zm_w_X11 (zw_g40 G _) rfl 27 (by decide) zm_f_X11_66 rfl dX11_makes_39 ?_
      refine lv_iload C.1 C.2.1 dX11_makes_42 (lv_at hl 3 rfl) ?_
      refine lv_lconst (v := 0) C.1 C.2.1 dX11_makes_44 (by decide) ?_
      refine zr_last C w 58 (zw_g58 G _) (zw_s58 G _) dX11_makes_45 h (fun S4 H locs w h => ?_)
      obtain ⟨v5, e_, h⟩ := zc_lt_x h
      refine lv_iinc (v := v5) (lv' := [(4, .int v5), (0, .ref (zg_q G 40)), (2, .int f2), (3, .int f3)]) C.1 C.2.1 dX11_makes_46 hl (k := 3) rfl (by subst e_; rfl) (by decide) rfl (fun ls hl => ?_)
      clear e_
      refine lv_goto (tgt := 31) C.1 C.2.1 dX11_makes_49 (by decide) ?_
      exact ih _ _ h _ _ _ w (lv_sub hl [1, 2, 3, 0] rfl)
set_option maxHeartbeats 4000000 in
set_option maxRecDepth 100000 in
theorem zq_X11_makes_129 {p : Program} {l : Launch} {e : Env} {s : State} {m : MethodId} {args : Array Value} {below : List Frame} {meth : Method} {c : Code} {G : zg_T} {Q : State → Prop} (C : zx_C p s m args meth c G RX11 cX11_makes 7) (rec : zs_T → Int32 → Option zs_T) (S : zs_T) (y2 : Int32) (y3 : Int32) (y4 : Int32) (z0 : Int64) (z1 : Int64) (z2 : Int32) (oS : zs_T) (kont : ∀ (H : Heap) (locs : List Loc) (ls : Array Slot), zg_W G oS s H locs → lv_has ls 7 [] → W p l e zr_m_X11_makes s m args below meth c H locs 0 0 Q (F0 m 142 ls [])) (ih : ∀ (S : zs_T) (x4 : Int32), rec S x4 = some oS → ∀ (H : Heap) (locs : List Loc) (ls : Array Slot), zg_W G S s H locs → lv_has ls 7 [(0, .ref (zg_q G 40)), (2, .int y2), (3, .int y3), (4, .int x4)] → W p l e zr_m_X11_makes s m args below meth c H locs 0 0 Q (F0 m 55 ls [])) (h : zj_X11_makes_129 rec S y2 y3 y4 z0 z1 z2 = some oS) (H : Heap) (locs : List Loc) (ls : Array Slot) (w : zg_W G S s H locs) (hl : lv_has ls 7 [(0, .ref (zg_q G 40)), (2, .int y2), (3, .int y3), (4, .int y4)]) : W p l e zr_m_X11_makes s m args below meth c H locs 0 0 Q (F0 m 129 ls [.long z0, .long z1, .int z2, .ref (zg_q G 58)]) := by
  unfold zj_X11_makes_129 at h
  refine lv_ladd C.1 C.2.1 dX11_makes_129 ?_
  refine zr_callSl C w (As := [.long (z1 + z0)]) (zm_X11_cut l G _ _ _ rfl) zm_c_X11_cut zm_l_X11_82 zm_s_X11_cut zm_0_X11 zm_d_X11_cut ⟨rfl, rfl⟩ ⟨Nat.le_of_ble_eq_true rfl, Nat.le_of_ble_eq_true rfl⟩ hl.1 rfl rfl (Nat.le_of_ble_eq_true rfl) dX11_makes_130 ⟨Nat.le_of_ble_eq_true rfl, Nat.le_of_ble_eq_true rfl⟩ (fun H locs w => ?_)
  refine zr_ltl h (fun v9 h => ?_)
  refine lv_iload_n C.1 C.2.1 dX11_makes_133 rfl (lv_at hl 2 rfl) ?_
  refine lv_lshr C.1 C.2.1 dX11_makes_134 rfl ?_
  refine zr_last C w 58 (zw_g58 G _) (zw_s58 G _) dX11_makes_135 h (fun S10 H locs w h => ?_)
  obtain ⟨v11, e_, h⟩ := zc_lt_x h
  refine lv_iinc (v := v11) (lv' := [(4, .int v11), (0, .ref (zg_q G 40)), (2, .int y2), (3, .int y3)]) C.1 C.2.1 dX11_makes_136 hl (k := 3) rfl (by subst e_; rfl) (by decide) rfl (fun ls hl => ?_)
  clear e_
  refine lv_goto (tgt := 55) C.1 C.2.1 dX11_makes_139 (by decide) ?_
  exact ih _ _ h _ _ _ w (lv_sub hl [1, 2, 3, 0] rfl)
set_option maxHeartbeats 4000000 in
set_option maxRecDepth 100000 in
theorem zk_X11_makes_55 {p : Program} {l : Launch} {e : Env} {s : State} {m : MethodId} {args : Array Value} {below : List Frame} {meth : Method} {c : Code} {G : zg_T} {Q : State → Prop} (C : zx_C p s m args meth c G RX11 cX11_makes 7) (f2 : Int32) (f3 : Int32) (oS : zs_T) (kont : ∀ (H : Heap) (locs : List Loc) (ls : Array Slot), zg_W G oS s H locs → lv_has ls 7 [] → W p l e zr_m_X11_makes s m args below meth c H locs 0 0 Q (F0 m 142 ls [])) : ∀ (n : Nat) (S : zs_T) (x4 : Int32), zl_2 (zb_X11_makes_55 f2 f3) n S x4 = some oS → ∀ (H : Heap) (locs : List Loc) (ls : Array Slot), zg_W G S s H locs → lv_has ls 7 [(0, .ref (zg_q G 40)), (2, .int f2), (3, .int f3), (4, .int x4)] → W p l e zr_m_X11_makes s m args below meth c H locs 0 0 Q (F0 m 55 ls []) := by
  intro n
  induction n with
  | zero => intro S x4 h; cases h
  | succ n ih =>
    intro S x4 h H locs ls w hl
    replace h : zb_X11_makes_55 f2 f3 (zl_2 (zb_X11_makes_55 f2 f3) n) S x4 = some oS := h
    generalize zl_2 (zb_X11_makes_55 f2 f3) n = rec at ih h
    unfold zb_X11_makes_55 at h
    refine lv_iload C.1 C.2.1 dX11_makes_55 (lv_at hl 3 rfl) ?_
    refine lv_bipush (v := 13) C.1 C.2.1 dX11_makes_57 (by decide) ?_
    refine zr_ic_ge (tgt := 142) C dX11_makes_59 (by decide) h (fun h => ?_) (fun h => ?_)
    · cases h
      exact kont _ _ _ w (lv_sub hl [] rfl)
    · refine lv_aload_n C.1 C.2.1 dX11_makes_62 rfl (lv_at hl 0 rfl) ?_
      refine zr_get C w 40 zm_w_X11 (zw_g40 G _) rfl 29 (by decide) zm_f_X11_182 rfl dX11_makes_63 ?_
      refine zr_callSi C w (As := [.int (S.1 40 29)]) (zm_X11_tableF l G _ _ _ rfl) zm_c_X11_tableF zm_l_X11_194 zm_s_X11_tableF zm_0_X11 zm_d_X11_tableF ⟨rfl, rfl⟩ ⟨Nat.le_of_ble_eq_true rfl, Nat.le_of_ble_eq_true rfl⟩ hl.1 rfl rfl (Nat.le_of_ble_eq_true rfl) dX11_makes_66 ⟨Nat.le_of_ble_eq_true rfl, Nat.le_of_ble_eq_true rfl⟩ (fun H locs w => ?_)
      refine zr_lti h (fun v7 h => ?_)
      refine lv_i2l C.1 C.2.1 dX11_makes_69 rfl ?_
      refine lv_ldc2 (v := 2) C.1 C.2.1 C.2.2.2.1 (C.2.2.2.2.1 _ zm_k_X11_135) dX11_makes_70 ?_
      refine lv_aload_n C.1 C.2.1 dX11_makes_73 rfl (lv_at hl 0 rfl) ?_
      refine zr_get C w 40 zm_w_X11 (zw_g40 G _) rfl 5 (by decide) zm_f_X11_17 rfl dX11_makes_74 ?_
      refine lv_iload_n C.1 C.2.1 dX11_makes_77 rfl (lv_at hl 1 rfl) ?_
      refine lv_iconst (v := 2) C.1 C.2.1 dX11_makes_78 (by decide) ?_
      refine lv_iadd C.1 C.2.1 dX11_makes_79 ?_
      refine lv_iload C.1 C.2.1 dX11_makes_80 (lv_at hl 3 rfl) ?_
      refine lv_iadd C.1 C.2.1 dX11_makes_82 ?_
      refine zr_iald C w 43 (zw_g43 G _) dX11_makes_83 h (fun h => ?_)
      refine lv_i2l C.1 C.2.1 dX11_makes_84 rfl ?_
      refine lv_lmul C.1 C.2.1 dX11_makes_85 ?_
      refine lv_ldc2 (v := 7) C.1 C.2.1 C.2.2.2.1 (C.2.2.2.2.1 _ zm_k_X11_197) dX11_makes_86 ?_
      refine lv_lsub C.1 C.2.1 dX11_makes_89 ?_
      refine lv_ldc2 (v := 4096) C.1 C.2.1 C.2.2.2.1 (C.2.2.2.2.1 _ zm_k_X11_174) dX11_makes_90 ?_
      refine lv_lmul C.1 C.2.1 dX11_makes_93 ?_
      refine zr_callSl C w (As := [.long (Int32.toInt64 v7), .long ((((2 : Int64) * (Int32.toInt64 (S.1 43 (Int32.toNatClampNeg ((f2 + (2 : Int32)) + x4))))) - (7 : Int64)) * (4096 : Int64))]) (zm_X11_rounded l G _ _ _ _ rfl) zm_c_X11_rounded zm_l_X11_112 zm_s_X11_rounded zm_0_X11 zm_d_X11_rounded ⟨rfl, rfl⟩ ⟨Nat.le_of_ble_eq_true rfl, Nat.le_of_ble_eq_true rfl⟩ hl.1 rfl rfl (Nat.le_of_ble_eq_true rfl) dX11_makes_94 ⟨Nat.le_of_ble_eq_true rfl, Nat.le_of_ble_eq_true rfl⟩ (fun H locs w => ?_)
      refine zr_ltl h (fun v8 h => ?_)
      refine lv_lstore (lv' := [(5, .long v8), (0, .ref (zg_q G 40)), (2, .int f2), (3, .int f3), (4, .int x4)]) C.1 C.2.1 dX11_makes_97 hl (by decide) rfl (fun ls hl => ?_)
      refine lv_aload_n C.1 C.2.1 dX11_makes_99 rfl (lv_at hl 1 rfl) ?_
      refine zr_get C w 40 zm_w_X11 (zw_g40 G _) rfl 27 (by decide) zm_f_X11_66 rfl dX11_makes_100 ?_
      refine lv_aload_n C.1 C.2.1 dX11_makes_103 rfl (lv_at hl 1 rfl) ?_
      refine zr_get C w 40 zm_w_X11 (zw_g40 G _) rfl 5 (by decide) zm_f_X11_17 rfl dX11_makes_104 ?_
      refine lv_iload_n C.1 C.2.1 dX11_makes_107 rfl (lv_at hl 2 rfl) ?_
      refine zr_iald C w 43 (zw_g43 G _) dX11_makes_108 h (fun h => ?_)
      refine lv_iconst (v := 3) C.1 C.2.1 dX11_makes_109 (by decide) ?_
      refine lv_iload C.1 C.2.1 dX11_makes_110 (lv_at hl 4 rfl) ?_
      refine lv_imul C.1 C.2.1 dX11_makes_112 ?_
      refine lv_iadd C.1 C.2.1 dX11_makes_113 ?_
      refine lv_lload C.1 C.2.1 dX11_makes_114 (lv_at hl 0 rfl) ?_
      refine lv_iload_n C.1 C.2.1 dX11_makes_116 rfl (lv_at hl 3 rfl) ?_
      refine zr_if_ne (tgt := 124) C dX11_makes_117 (by decide) h (fun h => ?_) (fun h => ?_)
      · refine lv_lconst (v := 1) C.1 C.2.1 dX11_makes_124 (by decide) ?_
        refine lv_iload_n C.1 C.2.1 dX11_makes_125 rfl (lv_at hl 3 rfl) ?_
        refine lv_iconst (v := 1) C.1 C.2.1 dX11_makes_126 (by decide) ?_
        refine lv_isub C.1 C.2.1 dX11_makes_127 ?_
        refine lv_lshl C.1 C.2.1 dX11_makes_128 rfl ?_
        exact zq_X11_makes_129 C rec _ _ _ _ _ _ _ _ kont ih h _ _ _ w (lv_sub hl [1, 2, 3, 4] rfl)
      · refine lv_lconst (v := 0) C.1 C.2.1 dX11_makes_120 (by decide) ?_
        refine lv_goto (tgt := 129) C.1 C.2.1 dX11_makes_121 (by decide) ?_
        exact zq_X11_makes_129 C rec _ _ _ _ _ _ _ _ kont ih h _ _ _ w (lv_sub hl [1, 2, 3, 4] rfl)
set_option maxHeartbeats 4000000 in
set_option maxRecDepth 100000 in
theorem zm_X11_makes (l : Launch) (G : zg_T) (S : zs_T) (a1 : Int32) (S1 : zs_T) (h : zf_X11_makes S a1 = some S1) : Met l yX11_makes (Cond.code yX11_makes cX11_makes 7 none :: zt_G) zr_m_X11_makes (va_Pc [.ref (zg_q G 40), .int a1] (zg_P G S)) (zg_Q G none S1) 0 0 (zg_A G) := by
  refine zx_met (by decide +kernel) (Nat.le_of_ble_eq_true rfl) (lv := [(0, .ref (zg_q G 40)), (1, .int a1)]) rfl ?_
  intro p e s m below meth c C hr w ls hl
  replace C : zx_C p s m _ meth c G RX11 cX11_makes 7 := C
  unfold zf_X11_makes at h
  refine lv_bipush (v := 10) C.1 C.2.1 dX11_makes_0 (by decide) ?_
  refine lv_bipush (v := 17) C.1 C.2.1 dX11_makes_2 (by decide) ?_
  refine lv_iload_n C.1 C.2.1 dX11_makes_4 rfl (lv_at hl 1 rfl) ?_
  refine lv_imul C.1 C.2.1 dX11_makes_5 ?_
  refine lv_iadd C.1 C.2.1 dX11_makes_6 ?_
  refine zr_lti h (fun v1 h => ?_)
  refine lv_istore_n (lv' := [(2, .int v1), (0, .ref (zg_q G 40)), (1, .int a1)]) C.1 C.2.1 dX11_makes_7 rfl hl (by decide) rfl (fun ls hl => ?_)
  refine lv_aload_n C.1 C.2.1 dX11_makes_8 rfl (lv_at hl 1 rfl) ?_
  refine lv_aload_n C.1 C.2.1 dX11_makes_9 rfl (lv_at hl 1 rfl) ?_
  refine zr_get C w 40 zm_w_X11 (zw_g40 G _) rfl 5 (by decide) zm_f_X11_17 rfl dX11_makes_10 ?_
  refine lv_iload_n C.1 C.2.1 dX11_makes_13 rfl (lv_at hl 0 rfl) ?_
  refine lv_iconst (v := 1) C.1 C.2.1 dX11_makes_14 (by decide) ?_
  refine lv_iadd C.1 C.2.1 dX11_makes_15 ?_
  refine zr_iald C w 43 (zw_g43 G _) dX11_makes_16 h (fun h => ?_)
  obtain ⟨S2, hc, h⟩ := zc_b1_x h
  refine zr_callVv C w 40 (zw_g40 G _) rfl (As := [.int (S.1 43 (Int32.toNatClampNeg (v1 + (1 : Int32))))]) (zm_X11_ofHeight l G _ _ _ hc) zm_c_X11_ofHeight zm_l_X11_187 zm_i_X11_ofHeight zm_e_X11_ofHeight zm_0_X11 zm_d_X11_ofHeight ⟨rfl, rfl⟩ ⟨Nat.le_of_ble_eq_true rfl, Nat.le_of_ble_eq_true rfl⟩ hl.1 rfl rfl (Nat.le_of_ble_eq_true rfl) dX11_makes_17 ⟨Nat.le_of_ble_eq_true rfl, Nat.le_of_ble_eq_true rfl⟩ (fun H locs w => ?_)
  clear hc
  refine lv_bipush (v := 6) C.1 C.2.1 dX11_makes_20 (by decide) ?_
  refine lv_aload_n C.1 C.2.1 dX11_makes_22 rfl (lv_at hl 1 rfl) ?_
  refine zr_get C w 40 zm_w_X11 (zw_g40 G _) rfl 28 (by decide) zm_f_X11_179 rfl dX11_makes_23 ?_
  refine lv_isub C.1 C.2.1 dX11_makes_26 ?_
  refine zr_lti h (fun v3 h => ?_)
  refine lv_istore_n (lv' := [(3, .int v3), (2, .int v1), (0, .ref (zg_q G 40)), (1, .int a1)]) C.1 C.2.1 dX11_makes_27 rfl hl (by decide) rfl (fun ls hl => ?_)
  refine lv_iconst (v := 0) C.1 C.2.1 dX11_makes_28 (by decide) ?_
  refine lv_istore (lv' := [(4, .int (0 : Int32)), (3, .int v3), (2, .int v1), (0, .ref (zg_q G 40)), (1, .int a1)]) C.1 C.2.1 dX11_makes_29 hl (by decide) rfl (fun ls hl => ?_)
  obtain ⟨S6, hc, h⟩ := zc_b1_x h
  refine zk_X11_makes_31 C v1 v3 S6 (fun H locs ls w hl => ?_) _ _ _ hc _ _ _ w (lv_sub hl [3, 2, 1, 0] rfl)
  clear hc
  refine lv_iconst (v := 0) C.1 C.2.1 dX11_makes_52 (by decide) ?_
  refine lv_istore (lv' := [(4, .int (0 : Int32)), (0, .ref (zg_q G 40)), (2, .int v1), (3, .int v3)]) C.1 C.2.1 dX11_makes_53 hl (by decide) rfl (fun ls hl => ?_)
  obtain ⟨S12, hc, h⟩ := zc_b1_x h
  refine zk_X11_makes_55 C v1 v3 S12 (fun H locs ls w hl => ?_) _ _ _ hc _ _ _ w (lv_sub hl [1, 2, 3, 0] rfl)
  clear hc
  exact zr_retv C w hr dX11_makes_142 (Option.some.inj h)
set_option maxHeartbeats 4000000 in
set_option maxRecDepth 100000 in
theorem zk_X11_settles_2 {p : Program} {l : Launch} {e : Env} {s : State} {m : MethodId} {args : Array Value} {below : List Frame} {meth : Method} {c : Code} {G : zg_T} {Q : State → Prop} (C : zx_C p s m args meth c G RX11 cX11_settles 3) (f1 : Int32) (oS : zs_T) (kont : ∀ (H : Heap) (locs : List Loc) (ls : Array Slot), zg_W G oS s H locs → lv_has ls 3 [] → W p l e zr_m_X11_settles s m args below meth c H locs 0 0 Q (F0 m 34 ls [])) : ∀ (n : Nat) (S : zs_T) (x2 : Int32), zl_2 (zb_X11_settles_2 f1) n S x2 = some oS → ∀ (H : Heap) (locs : List Loc) (ls : Array Slot), zg_W G S s H locs → lv_has ls 3 [(0, .ref (zg_q G 40)), (1, .int f1), (2, .int x2)] → W p l e zr_m_X11_settles s m args below meth c H locs 0 0 Q (F0 m 2 ls []) := by
  intro n
  induction n with
  | zero => intro S x2 h; cases h
  | succ n ih =>
    intro S x2 h H locs ls w hl
    replace h : zb_X11_settles_2 f1 (zl_2 (zb_X11_settles_2 f1) n) S x2 = some oS := h
    generalize zl_2 (zb_X11_settles_2 f1) n = rec at ih h
    unfold zb_X11_settles_2 at h
    refine lv_iload_n C.1 C.2.1 dX11_settles_2 rfl (lv_at hl 2 rfl) ?_
    refine lv_bipush (v := 120) C.1 C.2.1 dX11_settles_3 (by decide) ?_
    refine zr_ic_ge (tgt := 34) C dX11_settles_5 (by decide) h (fun h => ?_) (fun h => ?_)
    · cases h
      exact kont _ _ _ w (lv_sub hl [] rfl)
    · refine lv_aload_n C.1 C.2.1 dX11_settles_8 rfl (lv_at hl 0 rfl) ?_
      refine zr_get C w 40 zm_w_X11 (zw_g40 G _) rfl 15 (by decide) zm_f_X11_32 rfl dX11_settles_9 ?_
      refine lv_iload_n C.1 C.2.1 dX11_settles_12 rfl (lv_at hl 1 rfl) ?_
      refine lv_iload_n C.1 C.2.1 dX11_settles_13 rfl (lv_at hl 2 rfl) ?_
      refine lv_iadd C.1 C.2.1 dX11_settles_14 ?_
      refine lv_aload_n C.1 C.2.1 dX11_settles_15 rfl (lv_at hl 0 rfl) ?_
      refine zr_get C w 40 zm_w_X11 (zw_g40 G _) rfl 15 (by decide) zm_f_X11_32 rfl dX11_settles_16 ?_
      refine lv_iload_n C.1 C.2.1 dX11_settles_19 rfl (lv_at hl 1 rfl) ?_
      refine lv_sipush (v := 160) C.1 C.2.1 dX11_settles_20 (by decide) ?_
      refine lv_iadd C.1 C.2.1 dX11_settles_23 ?_
      refine lv_iload_n C.1 C.2.1 dX11_settles_24 rfl (lv_at hl 2 rfl) ?_
      refine lv_iadd C.1 C.2.1 dX11_settles_25 ?_
      refine zr_lald C w 48 (zw_g48 G _) dX11_settles_26 h (fun h => ?_)
      refine zr_last C w 48 (zw_g48 G _) (zw_s48 G _) dX11_settles_27 h (fun S1 H locs w h => ?_)
      obtain ⟨v2, e_, h⟩ := zc_lt_x h
      refine lv_iinc (v := v2) (lv' := [(2, .int v2), (0, .ref (zg_q G 40)), (1, .int f1)]) C.1 C.2.1 dX11_settles_28 hl (k := 2) rfl (by subst e_; rfl) (by decide) rfl (fun ls hl => ?_)
      clear e_
      refine lv_goto (tgt := 2) C.1 C.2.1 dX11_settles_31 (by decide) ?_
      exact ih _ _ h _ _ _ w (lv_sub hl [1, 2, 0] rfl)
set_option maxHeartbeats 4000000 in
set_option maxRecDepth 100000 in
theorem zm_X11_settles (l : Launch) (G : zg_T) (S : zs_T) (a1 : Int32) (S1 : zs_T) (h : zf_X11_settles S a1 = some S1) : Met l yX11_settles (Cond.code yX11_settles cX11_settles 3 none :: zt_G) zr_m_X11_settles (va_Pc [.ref (zg_q G 40), .int a1] (zg_P G S)) (zg_Q G none S1) 0 0 (zg_A G) := by
  refine zx_met (by decide +kernel) (Nat.le_of_ble_eq_true rfl) (lv := [(0, .ref (zg_q G 40)), (1, .int a1)]) rfl ?_
  intro p e s m below meth c C hr w ls hl
  replace C : zx_C p s m _ meth c G RX11 cX11_settles 3 := C
  unfold zf_X11_settles at h
  refine lv_iconst (v := 0) C.1 C.2.1 dX11_settles_0 (by decide) ?_
  refine lv_istore_n (lv' := [(2, .int (0 : Int32)), (0, .ref (zg_q G 40)), (1, .int a1)]) C.1 C.2.1 dX11_settles_1 rfl hl (by decide) rfl (fun ls hl => ?_)
  obtain ⟨S3, hc, h⟩ := zc_b1_x h
  refine zk_X11_settles_2 C a1 S3 (fun H locs ls w hl => ?_) _ _ _ hc _ _ _ w (lv_sub hl [1, 2, 0] rfl)
  clear hc
  exact zr_retv C w hr dX11_settles_34 (Option.some.inj h)
set_option maxHeartbeats 4000000 in
set_option maxRecDepth 100000 in
theorem zk_X11_encode_76 {p : Program} {l : Launch} {e : Env} {s : State} {m : MethodId} {args : Array Value} {below : List Frame} {meth : Method} {c : Code} {G : zg_T} {Q : State → Prop} (C : zx_C p s m args meth c G RX11 cX11_encode 4) (f1 : Int32) (f2 : Int32) (oS : zs_T) (kont : ∀ (H : Heap) (locs : List Loc) (ls : Array Slot), zg_W G oS s H locs → lv_has ls 4 [(0, .ref (zg_q G 40)), (1, .int f1), (2, .int f2)] → W p l e zr_m_X11_encode s m args below meth c H locs 0 0 Q (F0 m 165 ls [])) : ∀ (n : Nat) (S : zs_T) (x3 : Int32), zl_2 (zb_X11_encode_76 f1 f2) n S x3 = some oS → ∀ (H : Heap) (locs : List Loc) (ls : Array Slot), zg_W G S s H locs → lv_has ls 4 [(0, .ref (zg_q G 40)), (1, .int f1), (2, .int f2), (3, .int x3)] → W p l e zr_m_X11_encode s m args below meth c H locs 0 0 Q (F0 m 76 ls []) := by
  intro n
  induction n with
  | zero => intro S x3 h; cases h
  | succ n ih =>
    intro S x3 h H locs ls w hl
    replace h : zb_X11_encode_76 f1 f2 (zl_2 (zb_X11_encode_76 f1 f2) n) S x3 = some oS := h
    generalize zl_2 (zb_X11_encode_76 f1 f2) n = rec at ih h
    unfold zb_X11_encode_76 at h
    refine lv_iload_n C.1 C.2.1 dX11_encode_76 rfl (lv_at hl 3 rfl) ?_
    refine lv_bipush (v := 40) C.1 C.2.1 dX11_encode_77 (by decide) ?_
    refine zr_ic_ge (tgt := 165) C dX11_encode_79 (by decide) h (fun h => ?_) (fun h => ?_)
    · cases h
      exact kont _ _ _ w (lv_sub hl [0, 1, 2] rfl)
    · refine lv_aload_n C.1 C.2.1 dX11_encode_82 rfl (lv_at hl 0 rfl) ?_
      refine zr_get C w 40 zm_w_X11 (zw_g40 G _) rfl 15 (by decide) zm_f_X11_32 rfl dX11_encode_83 ?_
      refine lv_iload_n C.1 C.2.1 dX11_encode_86 rfl (lv_at hl 2 rfl) ?_
      refine lv_iload_n C.1 C.2.1 dX11_encode_87 rfl (lv_at hl 3 rfl) ?_
      refine lv_iadd C.1 C.2.1 dX11_encode_88 ?_
      refine lv_aload_n C.1 C.2.1 dX11_encode_89 rfl (lv_at hl 0 rfl) ?_
      refine zr_get C w 40 zm_w_X11 (zw_g40 G _) rfl 5 (by decide) zm_f_X11_17 rfl dX11_encode_90 ?_
      refine lv_bipush (v := 9) C.1 C.2.1 dX11_encode_93 (by decide) ?_
      refine lv_bipush (v := 17) C.1 C.2.1 dX11_encode_95 (by decide) ?_
      refine lv_iload_n C.1 C.2.1 dX11_encode_97 rfl (lv_at hl 1 rfl) ?_
      refine lv_imul C.1 C.2.1 dX11_encode_98 ?_
      refine lv_iadd C.1 C.2.1 dX11_encode_99 ?_
      refine zr_iald C w 43 (zw_g43 G _) dX11_encode_100 h (fun h => ?_)
      refine zr_callSi C w (As := [.int (S.1 43 (Int32.toNatClampNeg ((9 : Int32) + ((17 : Int32) * f1))))]) (zm_X11_tableG l G _ _ _ rfl) zm_c_X11_tableG zm_l_X11_223 zm_s_X11_tableG zm_0_X11 zm_d_X11_tableG ⟨rfl, rfl⟩ ⟨Nat.le_of_ble_eq_true rfl, Nat.le_of_ble_eq_true rfl⟩ hl.1 rfl rfl (Nat.le_of_ble_eq_true rfl) dX11_encode_101 ⟨Nat.le_of_ble_eq_true rfl, Nat.le_of_ble_eq_true rfl⟩ (fun H locs w => ?_)
      refine zr_lti h (fun v12 h => ?_)
      refine lv_i2l C.1 C.2.1 dX11_encode_104 rfl ?_
      refine lv_aload_n C.1 C.2.1 dX11_encode_105 rfl (lv_at hl 0 rfl) ?_
      refine zr_get C w 40 zm_w_X11 (zw_g40 G _) rfl 15 (by decide) zm_f_X11_32 rfl dX11_encode_106 ?_
      refine lv_iload_n C.1 C.2.1 dX11_encode_109 rfl (lv_at hl 2 rfl) ?_
      refine lv_iload_n C.1 C.2.1 dX11_encode_110 rfl (lv_at hl 3 rfl) ?_
      refine lv_iadd C.1 C.2.1 dX11_encode_111 ?_
      refine lv_aload_n C.1 C.2.1 dX11_encode_112 rfl (lv_at hl 0 rfl) ?_
      refine zr_get C w 40 zm_w_X11 (zw_g40 G _) rfl 5 (by decide) zm_f_X11_17 rfl dX11_encode_113 ?_
      refine lv_bipush (v := 8) C.1 C.2.1 dX11_encode_116 (by decide) ?_
      refine lv_bipush (v := 17) C.1 C.2.1 dX11_encode_118 (by decide) ?_
      refine lv_iload_n C.1 C.2.1 dX11_encode_120 rfl (lv_at hl 1 rfl) ?_
      refine lv_imul C.1 C.2.1 dX11_encode_121 ?_
      refine lv_iadd C.1 C.2.1 dX11_encode_122 ?_
      refine zr_iald C w 43 (zw_g43 G _) dX11_encode_123 h (fun h => ?_)
      refine lv_isub C.1 C.2.1 dX11_encode_124 ?_
      refine zr_lald C w 48 (zw_g48 G _) dX11_encode_125 h (fun h => ?_)
      refine zr_callSl C w (As := [.long (Int32.toInt64 v12), .long (S.2 48 (Int32.toNatClampNeg ((f2 + x3) - (S.1 43 (Int32.toNatClampNeg ((8 : Int32) + ((17 : Int32) * f1)))))))]) (zm_X11_rounded l G _ _ _ _ rfl) zm_c_X11_rounded zm_l_X11_112 zm_s_X11_rounded zm_0_X11 zm_d_X11_rounded ⟨rfl, rfl⟩ ⟨Nat.le_of_ble_eq_true rfl, Nat.le_of_ble_eq_true rfl⟩ hl.1 rfl rfl (Nat.le_of_ble_eq_true rfl) dX11_encode_126 ⟨Nat.le_of_ble_eq_true rfl, Nat.le_of_ble_eq_true rfl⟩ (fun H locs w => ?_)
      refine zr_ltl h (fun v13 h => ?_)
      refine zr_last C w 48 (zw_g48 G _) (zw_s48 G _) dX11_encode_129 h (fun S14 H locs w h => ?_)
      refine lv_aload_n C.1 C.2.1 dX11_encode_130 rfl (lv_at hl 0 rfl) ?_
      refine zr_get C w 40 zm_w_X11 (zw_g40 G _) rfl 20 (by decide) zm_f_X11_45 rfl dX11_encode_131 ?_
      refine lv_iload_n C.1 C.2.1 dX11_encode_134 rfl (lv_at hl 3 rfl) ?_
      refine lv_aload_n C.1 C.2.1 dX11_encode_135 rfl (lv_at hl 0 rfl) ?_
      refine zr_get C w 40 zm_w_X11 (zw_g40 G _) rfl 19 (by decide) zm_f_X11_42 rfl dX11_encode_136 ?_
      refine lv_bipush (v := 40) C.1 C.2.1 dX11_encode_139 (by decide) ?_
      refine lv_iload_n C.1 C.2.1 dX11_encode_141 rfl (lv_at hl 1 rfl) ?_
      refine lv_imul C.1 C.2.1 dX11_encode_142 ?_
      refine lv_iload_n C.1 C.2.1 dX11_encode_143 rfl (lv_at hl 3 rfl) ?_
      refine lv_iadd C.1 C.2.1 dX11_encode_144 ?_
      refine zr_lald C w 50 (zw_g50 G _) dX11_encode_145 h (fun h => ?_)
      refine lv_aload_n C.1 C.2.1 dX11_encode_146 rfl (lv_at hl 0 rfl) ?_
      refine zr_get C w 40 zm_w_X11 (zw_g40 G _) rfl 15 (by decide) zm_f_X11_32 rfl dX11_encode_147 ?_
      refine lv_iload_n C.1 C.2.1 dX11_encode_150 rfl (lv_at hl 2 rfl) ?_
      refine lv_iload_n C.1 C.2.1 dX11_encode_151 rfl (lv_at hl 3 rfl) ?_
      refine lv_iadd C.1 C.2.1 dX11_encode_152 ?_
      refine zr_lald C w 48 (zw_g48 G _) dX11_encode_153 h (fun h => ?_)
      refine lv_lsub C.1 C.2.1 dX11_encode_154 ?_
      refine zr_callSl C w (As := [.long ((S14.2 50 (Int32.toNatClampNeg (((40 : Int32) * f1) + x3))) - (S14.2 48 (Int32.toNatClampNeg (f2 + x3))))]) (zm_X11_cut l G _ _ _ rfl) zm_c_X11_cut zm_l_X11_82 zm_s_X11_cut zm_0_X11 zm_d_X11_cut ⟨rfl, rfl⟩ ⟨Nat.le_of_ble_eq_true rfl, Nat.le_of_ble_eq_true rfl⟩ hl.1 rfl rfl (Nat.le_of_ble_eq_true rfl) dX11_encode_155 ⟨Nat.le_of_ble_eq_true rfl, Nat.le_of_ble_eq_true rfl⟩ (fun H locs w => ?_)
      refine zr_ltl h (fun v15 h => ?_)
      refine zr_last C w 51 (zw_g51 G _) (zw_s51 G _) dX11_encode_158 h (fun S16 H locs w h => ?_)
      obtain ⟨v17, e_, h⟩ := zc_lt_x h
      refine lv_iinc (v := v17) (lv' := [(3, .int v17), (0, .ref (zg_q G 40)), (1, .int f1), (2, .int f2)]) C.1 C.2.1 dX11_encode_159 hl (k := 3) rfl (by subst e_; rfl) (by decide) rfl (fun ls hl => ?_)
      clear e_
      refine lv_goto (tgt := 76) C.1 C.2.1 dX11_encode_162 (by decide) ?_
      exact ih _ _ h _ _ _ w (lv_sub hl [1, 2, 3, 0] rfl)
set_option maxHeartbeats 4000000 in
set_option maxRecDepth 100000 in
theorem zk_X11_encode_181 {p : Program} {l : Launch} {e : Env} {s : State} {m : MethodId} {args : Array Value} {below : List Frame} {meth : Method} {c : Code} {G : zg_T} {Q : State → Prop} (C : zx_C p s m args meth c G RX11 cX11_encode 4) (f1 : Int32) (f2 : Int32) (oS : zs_T) (kont : ∀ (H : Heap) (locs : List Loc) (ls : Array Slot), zg_W G oS s H locs → lv_has ls 4 [(0, .ref (zg_q G 40)), (1, .int f1)] → W p l e zr_m_X11_encode s m args below meth c H locs 0 0 Q (F0 m 219 ls [])) : ∀ (n : Nat) (S : zs_T) (x3 : Int32), zl_2 (zb_X11_encode_181 f2) n S x3 = some oS → ∀ (H : Heap) (locs : List Loc) (ls : Array Slot), zg_W G S s H locs → lv_has ls 4 [(0, .ref (zg_q G 40)), (1, .int f1), (2, .int f2), (3, .int x3)] → W p l e zr_m_X11_encode s m args below meth c H locs 0 0 Q (F0 m 181 ls []) := by
  intro n
  induction n with
  | zero => intro S x3 h; cases h
  | succ n ih =>
    intro S x3 h H locs ls w hl
    replace h : zb_X11_encode_181 f2 (zl_2 (zb_X11_encode_181 f2) n) S x3 = some oS := h
    generalize zl_2 (zb_X11_encode_181 f2) n = rec at ih h
    unfold zb_X11_encode_181 at h
    refine lv_iload_n C.1 C.2.1 dX11_encode_181 rfl (lv_at hl 3 rfl) ?_
    refine lv_bipush (v := 40) C.1 C.2.1 dX11_encode_182 (by decide) ?_
    refine zr_ic_ge (tgt := 219) C dX11_encode_184 (by decide) h (fun h => ?_) (fun h => ?_)
    · cases h
      exact kont _ _ _ w (lv_sub hl [0, 1] rfl)
    · refine lv_aload_n C.1 C.2.1 dX11_encode_187 rfl (lv_at hl 0 rfl) ?_
      refine zr_get C w 40 zm_w_X11 (zw_g40 G _) rfl 15 (by decide) zm_f_X11_32 rfl dX11_encode_188 ?_
      refine lv_iload_n C.1 C.2.1 dX11_encode_191 rfl (lv_at hl 2 rfl) ?_
      refine lv_iload_n C.1 C.2.1 dX11_encode_192 rfl (lv_at hl 3 rfl) ?_
      refine lv_iadd C.1 C.2.1 dX11_encode_193 ?_
      refine lv_aload_n C.1 C.2.1 dX11_encode_194 rfl (lv_at hl 0 rfl) ?_
      refine zr_get C w 40 zm_w_X11 (zw_g40 G _) rfl 15 (by decide) zm_f_X11_32 rfl dX11_encode_195 ?_
      refine lv_iload_n C.1 C.2.1 dX11_encode_198 rfl (lv_at hl 2 rfl) ?_
      refine lv_iload_n C.1 C.2.1 dX11_encode_199 rfl (lv_at hl 3 rfl) ?_
      refine lv_iadd C.1 C.2.1 dX11_encode_200 ?_
      refine zr_lald C w 48 (zw_g48 G _) dX11_encode_201 h (fun h => ?_)
      refine lv_aload_n C.1 C.2.1 dX11_encode_202 rfl (lv_at hl 0 rfl) ?_
      refine zr_get C w 40 zm_w_X11 (zw_g40 G _) rfl 27 (by decide) zm_f_X11_66 rfl dX11_encode_203 ?_
      refine lv_iload_n C.1 C.2.1 dX11_encode_206 rfl (lv_at hl 3 rfl) ?_
      refine zr_lald C w 58 (zw_g58 G _) dX11_encode_207 h (fun h => ?_)
      refine lv_ladd C.1 C.2.1 dX11_encode_208 ?_
      refine zr_callSl C w (As := [.long ((S.2 48 (Int32.toNatClampNeg (f2 + x3))) + (S.2 58 (Int32.toNatClampNeg x3)))]) (zm_X11_cut l G _ _ _ rfl) zm_c_X11_cut zm_l_X11_82 zm_s_X11_cut zm_0_X11 zm_d_X11_cut ⟨rfl, rfl⟩ ⟨Nat.le_of_ble_eq_true rfl, Nat.le_of_ble_eq_true rfl⟩ hl.1 rfl rfl (Nat.le_of_ble_eq_true rfl) dX11_encode_209 ⟨Nat.le_of_ble_eq_true rfl, Nat.le_of_ble_eq_true rfl⟩ (fun H locs w => ?_)
      refine zr_ltl h (fun v22 h => ?_)
      refine zr_last C w 48 (zw_g48 G _) (zw_s48 G _) dX11_encode_212 h (fun S23 H locs w h => ?_)
      obtain ⟨v24, e_, h⟩ := zc_lt_x h
      refine lv_iinc (v := v24) (lv' := [(3, .int v24), (0, .ref (zg_q G 40)), (1, .int f1), (2, .int f2)]) C.1 C.2.1 dX11_encode_213 hl (k := 3) rfl (by subst e_; rfl) (by decide) rfl (fun ls hl => ?_)
      clear e_
      refine lv_goto (tgt := 181) C.1 C.2.1 dX11_encode_216 (by decide) ?_
      exact ih _ _ h _ _ _ w (lv_sub hl [1, 2, 3, 0] rfl)
set_option maxHeartbeats 4000000 in
set_option maxRecDepth 100000 in
theorem zk_X11_encode_55 {p : Program} {l : Launch} {e : Env} {s : State} {m : MethodId} {args : Array Value} {below : List Frame} {meth : Method} {c : Code} {G : zg_T} {Q : State → Prop} (C : zx_C p s m args meth c G RX11 cX11_encode 4) (oS : zs_T) (kont : ∀ (H : Heap) (locs : List Loc) (ls : Array Slot), zg_W G oS s H locs → lv_has ls 4 [(0, .ref (zg_q G 40))] → W p l e zr_m_X11_encode s m args below meth c H locs 0 0 Q (F0 m 225 ls [])) : ∀ (n : Nat) (S : zs_T) (x1 : Int32), zl_2 (zb_X11_encode_55) n S x1 = some oS → ∀ (H : Heap) (locs : List Loc) (ls : Array Slot), zg_W G S s H locs → lv_has ls 4 [(0, .ref (zg_q G 40)), (1, .int x1)] → W p l e zr_m_X11_encode s m args below meth c H locs 0 0 Q (F0 m 55 ls []) := by
  intro n
  induction n with
  | zero => intro S x1 h; cases h
  | succ n ih =>
    intro S x1 h H locs ls w hl
    replace h : zb_X11_encode_55 (zl_2 (zb_X11_encode_55) n) S x1 = some oS := h
    generalize zl_2 (zb_X11_encode_55) n = rec at ih h
    unfold zb_X11_encode_55 at h
    refine lv_iload_n C.1 C.2.1 dX11_encode_55 rfl (lv_at hl 1 rfl) ?_
    refine lv_iconst (v := 4) C.1 C.2.1 dX11_encode_56 (by decide) ?_
    refine zr_ic_ge (tgt := 225) C dX11_encode_57 (by decide) h (fun h => ?_) (fun h => ?_)
    · cases h
      exact kont _ _ _ w (lv_sub hl [0] rfl)
    · refine lv_bipush (v := 120) C.1 C.2.1 dX11_encode_60 (by decide) ?_
      refine lv_bipush (v := 40) C.1 C.2.1 dX11_encode_62 (by decide) ?_
      refine lv_iload_n C.1 C.2.1 dX11_encode_64 rfl (lv_at hl 1 rfl) ?_
      refine lv_imul C.1 C.2.1 dX11_encode_65 ?_
      refine lv_iadd C.1 C.2.1 dX11_encode_66 ?_
      refine zr_lti h (fun v10 h => ?_)
      refine lv_istore_n (lv' := [(2, .int v10), (0, .ref (zg_q G 40)), (1, .int x1)]) C.1 C.2.1 dX11_encode_67 rfl hl (by decide) rfl (fun ls hl => ?_)
      refine lv_aload_n C.1 C.2.1 dX11_encode_68 rfl (lv_at hl 1 rfl) ?_
      refine lv_iload_n C.1 C.2.1 dX11_encode_69 rfl (lv_at hl 2 rfl) ?_
      refine lv_iload_n C.1 C.2.1 dX11_encode_70 rfl (lv_at hl 0 rfl) ?_
      obtain ⟨S11, hc, h⟩ := zc_b1_x h
      refine zr_callVv C w 40 (zw_g40 G _) rfl (As := [.int x1, .int v10]) (zm_X11_looksBack l G _ _ _ _ hc) zm_c_X11_looksBack zm_l_X11_220 zm_i_X11_looksBack zm_e_X11_looksBack zm_0_X11 zm_d_X11_looksBack ⟨rfl, rfl⟩ ⟨Nat.le_of_ble_eq_true rfl, Nat.le_of_ble_eq_true rfl⟩ hl.1 rfl rfl (Nat.le_of_ble_eq_true rfl) dX11_encode_71 ⟨Nat.le_of_ble_eq_true rfl, Nat.le_of_ble_eq_true rfl⟩ (fun H locs w => ?_)
      clear hc
      refine lv_iconst (v := 0) C.1 C.2.1 dX11_encode_74 (by decide) ?_
      refine lv_istore_n (lv' := [(3, .int (0 : Int32)), (2, .int v10), (0, .ref (zg_q G 40)), (1, .int x1)]) C.1 C.2.1 dX11_encode_75 rfl hl (by decide) rfl (fun ls hl => ?_)
      obtain ⟨S18, hc, h⟩ := zc_b1_x h
      refine zk_X11_encode_76 C x1 v10 S18 (fun H locs ls w hl => ?_) _ _ _ hc _ _ _ w (lv_sub hl [2, 3, 1, 0] rfl)
      clear hc
      refine lv_aload_n C.1 C.2.1 dX11_encode_165 rfl (lv_at hl 0 rfl) ?_
      obtain ⟨S19, hc, h⟩ := zc_b1_x h
      refine zr_callVv C w 40 (zw_g40 G _) rfl (As := []) (zm_X11_filters l G _ _ hc) zm_c_X11_filters zm_l_X11_226 zm_i_X11_filters zm_e_X11_filters zm_0_X11 zm_d_X11_filters ⟨rfl, rfl⟩ ⟨Nat.le_of_ble_eq_true rfl, Nat.le_of_ble_eq_true rfl⟩ hl.1 rfl rfl (Nat.le_of_ble_eq_true rfl) dX11_encode_166 ⟨Nat.le_of_ble_eq_true rfl, Nat.le_of_ble_eq_true rfl⟩ (fun H locs w => ?_)
      clear hc
      refine lv_aload_n C.1 C.2.1 dX11_encode_169 rfl (lv_at hl 0 rfl) ?_
      refine lv_iload_n C.1 C.2.1 dX11_encode_170 rfl (lv_at hl 1 rfl) ?_
      obtain ⟨S20, hc, h⟩ := zc_b1_x h
      refine zr_callVv C w 40 (zw_g40 G _) rfl (As := [.int x1]) (zm_X11_tellsPulses l G _ _ _ hc) zm_c_X11_tellsPulses zm_l_X11_229 zm_i_X11_tellsPulses zm_e_X11_tellsPulses zm_0_X11 zm_d_X11_tellsPulses ⟨rfl, rfl⟩ ⟨Nat.le_of_ble_eq_true rfl, Nat.le_of_ble_eq_true rfl⟩ hl.1 rfl rfl (Nat.le_of_ble_eq_true rfl) dX11_encode_171 ⟨Nat.le_of_ble_eq_true rfl, Nat.le_of_ble_eq_true rfl⟩ (fun H locs w => ?_)
      clear hc
      refine lv_aload_n C.1 C.2.1 dX11_encode_174 rfl (lv_at hl 0 rfl) ?_
      refine lv_iload_n C.1 C.2.1 dX11_encode_175 rfl (lv_at hl 1 rfl) ?_
      obtain ⟨S21, hc, h⟩ := zc_b1_x h
      refine zr_callVv C w 40 (zw_g40 G _) rfl (As := [.int x1]) (zm_X11_makes l G _ _ _ hc) zm_c_X11_makes zm_l_X11_232 zm_i_X11_makes zm_e_X11_makes zm_0_X11 zm_d_X11_makes ⟨rfl, rfl⟩ ⟨Nat.le_of_ble_eq_true rfl, Nat.le_of_ble_eq_true rfl⟩ hl.1 rfl rfl (Nat.le_of_ble_eq_true rfl) dX11_encode_176 ⟨Nat.le_of_ble_eq_true rfl, Nat.le_of_ble_eq_true rfl⟩ (fun H locs w => ?_)
      clear hc
      refine lv_iconst (v := 0) C.1 C.2.1 dX11_encode_179 (by decide) ?_
      refine lv_istore_n (lv' := [(3, .int (0 : Int32)), (0, .ref (zg_q G 40)), (1, .int x1), (2, .int v10)]) C.1 C.2.1 dX11_encode_180 rfl hl (by decide) rfl (fun ls hl => ?_)
      obtain ⟨S25, hc, h⟩ := zc_b1_x h
      refine zk_X11_encode_181 C x1 v10 S25 (fun H locs ls w hl => ?_) _ _ _ hc _ _ _ w (lv_sub hl [1, 2, 3, 0] rfl)
      clear hc
      obtain ⟨v26, e_, h⟩ := zc_lt_x h
      refine lv_iinc (v := v26) (lv' := [(1, .int v26), (0, .ref (zg_q G 40))]) C.1 C.2.1 dX11_encode_219 hl (k := 1) rfl (by subst e_; rfl) (by decide) rfl (fun ls hl => ?_)
      clear e_
      refine lv_goto (tgt := 55) C.1 C.2.1 dX11_encode_222 (by decide) ?_
      exact ih _ _ h _ _ _ w (lv_sub hl [1, 0] rfl)
set_option maxHeartbeats 4000000 in
set_option maxRecDepth 100000 in
theorem zq_X11_encode_16 {p : Program} {l : Launch} {e : Env} {s : State} {m : MethodId} {args : Array Value} {below : List Frame} {meth : Method} {c : Code} {G : zg_T} (hr : meth.sig.returnType = (some .int)) (C : zx_C p s m args meth c G RX11 cX11_encode 4) (r : Int32) (S1 : zs_T) (S : zs_T) (z0 : Int32) (h : zj_X11_encode_16 S z0 = some (r, S1)) (H : Heap) (locs : List Loc) (ls : Array Slot) (w : zg_W G S s H locs) (hl : lv_has ls 4 [(0, .ref (zg_q G 40))]) : W p l e zr_m_X11_encode s m args below meth c H locs 0 0 (MQ below (zg_Q G (some (.int r)) S1) args s 0 0 (zg_A G)) (F0 m 16 ls [.int z0, .ref (zg_q G 40)]) := by
  unfold zj_X11_encode_16 at h
  obtain ⟨v1, S2, hc, h⟩ := zc_b2_x h
  refine zr_callVi C w 40 (zw_g40 G _) rfl (As := [.int z0]) (zm_X11_refuses l G _ _ _ _ hc) zm_c_X11_refuses zm_l_X11_91 zm_i_X11_refuses zm_e_X11_refuses zm_0_X11 zm_d_X11_refuses ⟨rfl, rfl⟩ ⟨Nat.le_of_ble_eq_true rfl, Nat.le_of_ble_eq_true rfl⟩ hl.1 rfl rfl (Nat.le_of_ble_eq_true rfl) dX11_encode_16 ⟨Nat.le_of_ble_eq_true rfl, Nat.le_of_ble_eq_true rfl⟩ (fun H locs w => ?_)
  clear hc
  refine zr_if_eq (tgt := 24) C dX11_encode_19 (by decide) h (fun h => ?_) (fun h => ?_)
  · refine lv_aload_n C.1 C.2.1 dX11_encode_24 rfl (lv_at hl 0 rfl) ?_
    obtain ⟨S3, hc, h⟩ := zc_b1_x h
    refine zr_callVv C w 40 (zw_g40 G _) rfl (As := []) (zm_X11_prepares l G _ _ hc) zm_c_X11_prepares zm_l_X11_199 zm_i_X11_prepares zm_e_X11_prepares zm_0_X11 zm_d_X11_prepares ⟨rfl, rfl⟩ ⟨Nat.le_of_ble_eq_true rfl, Nat.le_of_ble_eq_true rfl⟩ hl.1 rfl rfl (Nat.le_of_ble_eq_true rfl) dX11_encode_25 ⟨Nat.le_of_ble_eq_true rfl, Nat.le_of_ble_eq_true rfl⟩ (fun H locs w => ?_)
    clear hc
    refine lv_aload_n C.1 C.2.1 dX11_encode_28 rfl (lv_at hl 0 rfl) ?_
    obtain ⟨S4, hc, h⟩ := zc_b1_x h
    refine zr_callVv C w 40 (zw_g40 G _) rfl (As := []) (zm_X11_correlates l G _ _ hc) zm_c_X11_correlates zm_l_X11_202 zm_i_X11_correlates zm_e_X11_correlates zm_0_X11 zm_d_X11_correlates ⟨rfl, rfl⟩ ⟨Nat.le_of_ble_eq_true rfl, Nat.le_of_ble_eq_true rfl⟩ hl.1 rfl rfl (Nat.le_of_ble_eq_true rfl) dX11_encode_29 ⟨Nat.le_of_ble_eq_true rfl, Nat.le_of_ble_eq_true rfl⟩ (fun H locs w => ?_)
    clear hc
    refine lv_aload_n C.1 C.2.1 dX11_encode_32 rfl (lv_at hl 0 rfl) ?_
    obtain ⟨S5, hc, h⟩ := zc_b1_x h
    refine zr_callVv C w 40 (zw_g40 G _) rfl (As := []) (zm_X11_reflects l G _ _ hc) zm_c_X11_reflects zm_l_X11_205 zm_i_X11_reflects zm_e_X11_reflects zm_0_X11 zm_d_X11_reflects ⟨rfl, rfl⟩ ⟨Nat.le_of_ble_eq_true rfl, Nat.le_of_ble_eq_true rfl⟩ hl.1 rfl rfl (Nat.le_of_ble_eq_true rfl) dX11_encode_33 ⟨Nat.le_of_ble_eq_true rfl, Nat.le_of_ble_eq_true rfl⟩ (fun H locs w => ?_)
    clear hc
    refine lv_aload_n C.1 C.2.1 dX11_encode_36 rfl (lv_at hl 0 rfl) ?_
    obtain ⟨S6, hc, h⟩ := zc_b1_x h
    refine zr_callVv C w 40 (zw_g40 G _) rfl (As := []) (zm_X11_tellsFilter l G _ _ hc) zm_c_X11_tellsFilter zm_l_X11_208 zm_i_X11_tellsFilter zm_e_X11_tellsFilter zm_0_X11 zm_d_X11_tellsFilter ⟨rfl, rfl⟩ ⟨Nat.le_of_ble_eq_true rfl, Nat.le_of_ble_eq_true rfl⟩ hl.1 rfl rfl (Nat.le_of_ble_eq_true rfl) dX11_encode_37 ⟨Nat.le_of_ble_eq_true rfl, Nat.le_of_ble_eq_true rfl⟩ (fun H locs w => ?_)
    clear hc
    refine lv_aload_n C.1 C.2.1 dX11_encode_40 rfl (lv_at hl 0 rfl) ?_
    obtain ⟨S7, hc, h⟩ := zc_b1_x h
    refine zr_callVv C w 40 (zw_g40 G _) rfl (As := []) (zm_X11_makesG l G _ _ hc) zm_c_X11_makesG zm_l_X11_211 zm_i_X11_makesG zm_e_X11_makesG zm_0_X11 zm_d_X11_makesG ⟨rfl, rfl⟩ ⟨Nat.le_of_ble_eq_true rfl, Nat.le_of_ble_eq_true rfl⟩ hl.1 rfl rfl (Nat.le_of_ble_eq_true rfl) dX11_encode_41 ⟨Nat.le_of_ble_eq_true rfl, Nat.le_of_ble_eq_true rfl⟩ (fun H locs w => ?_)
    clear hc
    refine lv_aload_n C.1 C.2.1 dX11_encode_44 rfl (lv_at hl 0 rfl) ?_
    obtain ⟨S8, hc, h⟩ := zc_b1_x h
    refine zr_callVv C w 40 (zw_g40 G _) rfl (As := []) (zm_X11_leaves l G _ _ hc) zm_c_X11_leaves zm_l_X11_214 zm_i_X11_leaves zm_e_X11_leaves zm_0_X11 zm_d_X11_leaves ⟨rfl, rfl⟩ ⟨Nat.le_of_ble_eq_true rfl, Nat.le_of_ble_eq_true rfl⟩ hl.1 rfl rfl (Nat.le_of_ble_eq_true rfl) dX11_encode_45 ⟨Nat.le_of_ble_eq_true rfl, Nat.le_of_ble_eq_true rfl⟩ (fun H locs w => ?_)
    clear hc
    refine lv_aload_n C.1 C.2.1 dX11_encode_48 rfl (lv_at hl 0 rfl) ?_
    refine lv_iconst (v := 0) C.1 C.2.1 dX11_encode_49 (by decide) ?_
    obtain ⟨S9, hc, h⟩ := zc_b1_x h
    refine zr_callVv C w 40 (zw_g40 G _) rfl (As := [.int (0 : Int32)]) (zm_X11_keepsG l G _ _ _ hc) zm_c_X11_keepsG zm_l_X11_217 zm_i_X11_keepsG zm_e_X11_keepsG zm_0_X11 zm_d_X11_keepsG ⟨rfl, rfl⟩ ⟨Nat.le_of_ble_eq_true rfl, Nat.le_of_ble_eq_true rfl⟩ hl.1 rfl rfl (Nat.le_of_ble_eq_true rfl) dX11_encode_50 ⟨Nat.le_of_ble_eq_true rfl, Nat.le_of_ble_eq_true rfl⟩ (fun H locs w => ?_)
    clear hc
    refine lv_iconst (v := 0) C.1 C.2.1 dX11_encode_53 (by decide) ?_
    refine lv_istore_n (lv' := [(1, .int (0 : Int32)), (0, .ref (zg_q G 40))]) C.1 C.2.1 dX11_encode_54 rfl hl (by decide) rfl (fun ls hl => ?_)
    obtain ⟨S27, hc, h⟩ := zc_b1_x h
    refine zk_X11_encode_55 C S27 (fun H locs ls w hl => ?_) _ _ _ hc _ _ _ w (lv_sub hl [1, 0] rfl)
    clear hc
    refine lv_aload_n C.1 C.2.1 dX11_encode_225 rfl (lv_at hl 0 rfl) ?_
    refine lv_iconst (v := 0) C.1 C.2.1 dX11_encode_226 (by decide) ?_
    obtain ⟨S28, hc, h⟩ := zc_b1_x h
    refine zr_callVv C w 40 (zw_g40 G _) rfl (As := [.int (0 : Int32)]) (zm_X11_settles l G _ _ _ hc) zm_c_X11_settles zm_l_X11_235 zm_i_X11_settles zm_e_X11_settles zm_0_X11 zm_d_X11_settles ⟨rfl, rfl⟩ ⟨Nat.le_of_ble_eq_true rfl, Nat.le_of_ble_eq_true rfl⟩ hl.1 rfl rfl (Nat.le_of_ble_eq_true rfl) dX11_encode_227 ⟨Nat.le_of_ble_eq_true rfl, Nat.le_of_ble_eq_true rfl⟩ (fun H locs w => ?_)
    clear hc
    refine lv_aload_n C.1 C.2.1 dX11_encode_230 rfl (lv_at hl 0 rfl) ?_
    refine lv_iconst (v := 0) C.1 C.2.1 dX11_encode_231 (by decide) ?_
    refine zr_put C w 40 zm_w_X11 tyX11 tyX11_ok nmX11 (zw_g40 G _) rfl 1 (by decide) zm_f_X11_88 rfl (ty := .int) (by decide +kernel) rfl rfl (Nat.le_of_ble_eq_true rfl) (zw_f40_1 G _ _) dX11_encode_232 h (fun S29 H locs w h => ?_)
    refine lv_aload_n C.1 C.2.1 dX11_encode_235 rfl (lv_at hl 0 rfl) ?_
    refine lv_dup C.1 C.2.1 dX11_encode_236 rfl ?_
    refine zr_get C w 40 zm_w_X11 (zw_g40 G _) rfl 7 (by decide) zm_f_X11_238 rfl dX11_encode_237 ?_
    refine lv_iconst (v := 1) C.1 C.2.1 dX11_encode_240 (by decide) ?_
    refine lv_iadd C.1 C.2.1 dX11_encode_241 ?_
    refine zr_put C w 40 zm_w_X11 tyX11 tyX11_ok nmX11 (zw_g40 G _) rfl 7 (by decide) zm_f_X11_238 rfl (ty := .int) (by decide +kernel) rfl rfl (Nat.le_of_ble_eq_true rfl) (zw_f40_7 G _ _) dX11_encode_242 h (fun S30 H locs w h => ?_)
    refine lv_aload_n C.1 C.2.1 dX11_encode_245 rfl (lv_at hl 0 rfl) ?_
    refine zr_get C w 40 zm_w_X11 (zw_g40 G _) rfl 7 (by decide) zm_f_X11_238 rfl dX11_encode_246 ?_
    exact zr_reti C w hr dX11_encode_249 (congrArg Prod.fst (Option.some.inj h)) (congrArg Prod.snd (Option.some.inj h))
  · refine lv_iconst (v := 0) C.1 C.2.1 dX11_encode_22 (by decide) ?_
    exact zr_reti C w hr dX11_encode_23 (congrArg Prod.fst (Option.some.inj h)) (congrArg Prod.snd (Option.some.inj h))
set_option maxHeartbeats 4000000 in
set_option maxRecDepth 100000 in
theorem zm_X11_encode (l : Launch) (G : zg_T) (S : zs_T) (r : Int32) (S1 : zs_T) (h : zf_X11_encode S = some (r, S1)) : Met l yX11_encode (Cond.code yX11_encode cX11_encode 4 (some .int) :: zt_G) zr_m_X11_encode (va_Pc [.ref (zg_q G 40)] (zg_P G S)) (zg_Q G (some (.int r)) S1) 0 0 (zg_A G) := by
  refine zx_met (by decide +kernel) (Nat.le_of_ble_eq_true rfl) (lv := [(0, .ref (zg_q G 40))]) rfl ?_
  intro p e s m below meth c C hr w ls hl
  replace C : zx_C p s m _ meth c G RX11 cX11_encode 4 := C
  unfold zf_X11_encode at h
  refine lv_aload_n C.1 C.2.1 dX11_encode_0 rfl (lv_at hl 0 rfl) ?_
  refine lv_aload_n C.1 C.2.1 dX11_encode_1 rfl (lv_at hl 0 rfl) ?_
  refine zr_get C w 40 zm_w_X11 (zw_g40 G _) rfl 1 (by decide) zm_f_X11_88 rfl dX11_encode_2 ?_
  refine lv_sipush (v := 160) C.1 C.2.1 dX11_encode_5 (by decide) ?_
  refine zr_ic_ne (tgt := 15) C dX11_encode_8 (by decide) h (fun h => ?_) (fun h => ?_)
  · refine lv_iconst (v := 1) C.1 C.2.1 dX11_encode_15 (by decide) ?_
    exact zq_X11_encode_16 hr C _ _ _ _ h _ _ _ w (lv_sub hl [0] rfl)
  · refine lv_iconst (v := 0) C.1 C.2.1 dX11_encode_11 (by decide) ?_
    refine lv_goto (tgt := 16) C.1 C.2.1 dX11_encode_12 (by decide) ?_
    exact zq_X11_encode_16 hr C _ _ _ _ h _ _ _ w (lv_sub hl [0] rfl)
