set_option maxHeartbeats 4000000 in
set_option maxRecDepth 100000 in
theorem zq_X11_fill_90 {p : Program} {l : Launch} {e : Env} {s : State} {m : MethodId} {args : Array Value} {below : List Frame} {meth : Method} {c : Code} {G : zg_T} {Q : State → Prop} (C : zx_C p s m args meth c G RX11 cX11_fill 9) (rec : zs_T → Int64 → Int32 → Option zs_T) (S : zs_T) (y2 : Int32) (y3 : Int32) (y4 : Int64) (y6 : Int32) (z0 : Int64) (z1 : Int32) (oS : zs_T) (kont : ∀ (H : Heap) (locs : List Loc) (ls : Array Slot), zg_W G oS s H locs → lv_has ls 9 [(0, .ref (zg_q G 40))] → W p l e zr_m_X11_fill s m args below meth c H locs 0 0 Q (F0 m 114 ls [])) (ih : ∀ (S : zs_T) (x4 : Int64) (x6 : Int32), rec S x4 x6 = some oS → ∀ (H : Heap) (locs : List Loc) (ls : Array Slot), zg_W G S s H locs → lv_has ls 9 [(0, .ref (zg_q G 40)), (2, .int y2), (3, .int y3), (4, .long x4), (6, .int x6)] → W p l e zr_m_X11_fill s m args below meth c H locs 0 0 Q (F0 m 48 ls [])) (h : zj_X11_fill_90 rec S y2 y3 y4 y6 z0 z1 = some oS) (H : Heap) (locs : List Loc) (ls : Array Slot) (w : zg_W G S s H locs) (hl : lv_has ls 9 [(0, .ref (zg_q G 40)), (2, .int y2), (3, .int y3), (4, .long y4), (6, .int y6)]) : W p l e zr_m_X11_fill s m args below meth c H locs 0 0 Q (F0 m 90 ls [.long z0, .int z1, .ref (zg_q G 41)]) := by
  unfold zj_X11_fill_90 at h
  refine zr_last C w 41 (zw_g41 G _) (zw_s41 G _) dX11_fill_90 h (fun S5 H locs w h => ?_)
  refine lv_aload_n C.1 C.2.1 dX11_fill_91 rfl (lv_at hl 0 rfl) ?_
  refine lv_dup C.1 C.2.1 dX11_fill_92 rfl ?_
  refine zr_get C w 40 zm_w_X11 (zw_g40 G _) rfl 1 (by decide) zm_f_X11_88 rfl dX11_fill_93 ?_
  refine lv_iconst (v := 1) C.1 C.2.1 dX11_fill_96 (by decide) ?_
  refine lv_iadd C.1 C.2.1 dX11_fill_97 ?_
  refine zr_put C w 40 zm_w_X11 tyX11 tyX11_ok nmX11 (zw_g40 G _) rfl 1 (by decide) zm_f_X11_88 rfl (ty := .int) (by decide +kernel) rfl rfl (Nat.le_of_ble_eq_true rfl) (zw_f40_1 G _ _) dX11_fill_98 h (fun S6 H locs w h => ?_)
  refine lv_lload C.1 C.2.1 dX11_fill_101 (lv_at hl 3 rfl) ?_
  refine lv_iload_n C.1 C.2.1 dX11_fill_103 rfl (lv_at hl 1 rfl) ?_
  refine lv_i2l C.1 C.2.1 dX11_fill_104 rfl ?_
  refine lv_ladd C.1 C.2.1 dX11_fill_105 ?_
  refine zr_ltl h (fun v7 h => ?_)
  refine lv_lstore (lv' := [(4, .long v7), (0, .ref (zg_q G 40)), (2, .int y2), (3, .int y3), (6, .int y6)]) C.1 C.2.1 dX11_fill_106 hl (by decide) rfl (fun ls hl => ?_)
  obtain ⟨v8, e_, h⟩ := zc_lt_x h
  refine lv_iinc (v := v8) (lv' := [(6, .int v8), (4, .long v7), (0, .ref (zg_q G 40)), (2, .int y2), (3, .int y3)]) C.1 C.2.1 dX11_fill_108 hl (k := 4) rfl (by subst e_; rfl) (by decide) rfl (fun ls hl => ?_)
  clear e_
  refine lv_goto (tgt := 48) C.1 C.2.1 dX11_fill_111 (by decide) ?_
  exact ih _ _ _ h _ _ _ w (lv_sub hl [2, 3, 4, 1, 0] rfl)
set_option maxHeartbeats 4000000 in
set_option maxRecDepth 100000 in
theorem zk_X11_fill_48 {p : Program} {l : Launch} {e : Env} {s : State} {m : MethodId} {args : Array Value} {below : List Frame} {meth : Method} {c : Code} {G : zg_T} {Q : State → Prop} (C : zx_C p s m args meth c G RX11 cX11_fill 9) (f2 : Int32) (f3 : Int32) (oS : zs_T) (kont : ∀ (H : Heap) (locs : List Loc) (ls : Array Slot), zg_W G oS s H locs → lv_has ls 9 [(0, .ref (zg_q G 40))] → W p l e zr_m_X11_fill s m args below meth c H locs 0 0 Q (F0 m 114 ls [])) : ∀ (n : Nat) (S : zs_T) (x4 : Int64) (x6 : Int32), zl_3 (zb_X11_fill_48 f2 f3) n S x4 x6 = some oS → ∀ (H : Heap) (locs : List Loc) (ls : Array Slot), zg_W G S s H locs → lv_has ls 9 [(0, .ref (zg_q G 40)), (2, .int f2), (3, .int f3), (4, .long x4), (6, .int x6)] → W p l e zr_m_X11_fill s m args below meth c H locs 0 0 Q (F0 m 48 ls []) := by
  intro n
  induction n with
  | zero => intro S x4 x6 h; cases h
  | succ n ih =>
    intro S x4 x6 h H locs ls w hl
    replace h : zb_X11_fill_48 f2 f3 (zl_3 (zb_X11_fill_48 f2 f3) n) S x4 x6 = some oS := h
    generalize zl_3 (zb_X11_fill_48 f2 f3) n = rec at ih h
    unfold zb_X11_fill_48 at h
    refine lv_iload C.1 C.2.1 dX11_fill_48 (lv_at hl 4 rfl) ?_
    refine lv_iload_n C.1 C.2.1 dX11_fill_50 rfl (lv_at hl 2 rfl) ?_
    refine zr_ic_ge (tgt := 114) C dX11_fill_51 (by decide) h (fun h => ?_) (fun h => ?_)
    · cases h
      exact kont _ _ _ w (lv_sub hl [0] rfl)
    · refine lv_lload C.1 C.2.1 dX11_fill_54 (lv_at hl 3 rfl) ?_
      refine lv_ldc2 (v := 65535) C.1 C.2.1 C.2.2.2.1 (C.2.2.2.2.1 _ zm_k_X11_95) dX11_fill_56 ?_
      refine lv_land C.1 C.2.1 dX11_fill_59 ?_
      refine zr_ltl h (fun v4 h => ?_)
      refine lv_lstore (lv' := [(7, .long v4), (0, .ref (zg_q G 40)), (2, .int f2), (3, .int f3), (4, .long x4), (6, .int x6)]) C.1 C.2.1 dX11_fill_60 hl (by decide) rfl (fun ls hl => ?_)
      refine lv_aload_n C.1 C.2.1 dX11_fill_62 rfl (lv_at hl 1 rfl) ?_
      refine zr_get C w 40 zm_w_X11 (zw_g40 G _) rfl 2 (by decide) zm_f_X11_7 rfl dX11_fill_63 ?_
      refine lv_aload_n C.1 C.2.1 dX11_fill_66 rfl (lv_at hl 1 rfl) ?_
      refine zr_get C w 40 zm_w_X11 (zw_g40 G _) rfl 1 (by decide) zm_f_X11_88 rfl dX11_fill_67 ?_
      refine lv_lload C.1 C.2.1 dX11_fill_70 (lv_at hl 0 rfl) ?_
      refine lv_ldc2 (v := 32767) C.1 C.2.1 C.2.2.2.1 (C.2.2.2.2.1 _ zm_k_X11_72) dX11_fill_72 ?_
      refine zr_lc_le (tgt := 88) C dX11_fill_75 dX11_fill_76 (by decide) h (fun h => ?_) (fun h => ?_)
      · refine lv_lload C.1 C.2.1 dX11_fill_88 (lv_at hl 0 rfl) ?_
        exact zq_X11_fill_90 C rec _ _ _ _ _ _ _ _ kont ih h _ _ _ w (lv_sub hl [1, 2, 3, 4, 5] rfl)
      · refine lv_lload C.1 C.2.1 dX11_fill_79 (lv_at hl 0 rfl) ?_
        refine lv_ldc2 (v := 65536) C.1 C.2.1 C.2.2.2.1 (C.2.2.2.2.1 _ zm_k_X11_97) dX11_fill_81 ?_
        refine lv_lsub C.1 C.2.1 dX11_fill_84 ?_
        refine lv_goto (tgt := 90) C.1 C.2.1 dX11_fill_85 (by decide) ?_
        exact zq_X11_fill_90 C rec _ _ _ _ _ _ _ _ kont ih h _ _ _ w (lv_sub hl [1, 2, 3, 4, 5] rfl)
set_option maxHeartbeats 4000000 in
set_option maxRecDepth 100000 in
theorem zq_X11_fill_33 {p : Program} {l : Launch} {e : Env} {s : State} {m : MethodId} {args : Array Value} {below : List Frame} {meth : Method} {c : Code} {G : zg_T} (hr : meth.sig.returnType = (some .int)) (C : zx_C p s m args meth c G RX11 cX11_fill 9) (r : Int32) (S1 : zs_T) (S : zs_T) (y1 : Int32) (y2 : Int32) (y3 : Int32) (z0 : Int32) (h : zj_X11_fill_33 S y1 y2 y3 z0 = some (r, S1)) (H : Heap) (locs : List Loc) (ls : Array Slot) (w : zg_W G S s H locs) (hl : lv_has ls 9 [(0, .ref (zg_q G 40)), (1, .int y1), (2, .int y2), (3, .int y3)]) : W p l e zr_m_X11_fill s m args below meth c H locs 0 0 (MQ below (zg_Q G (some (.int r)) S1) args s 0 0 (zg_A G)) (F0 m 33 ls [.int z0, .ref (zg_q G 40)]) := by
  unfold zj_X11_fill_33 at h
  obtain ⟨v1, S2, hc, h⟩ := zc_b2_x h
  refine zr_callVi C w 40 (zw_g40 G _) rfl (As := [.int z0]) (zm_X11_refuses l G _ _ _ _ hc) zm_c_X11_refuses zm_l_X11_91 zm_i_X11_refuses zm_e_X11_refuses zm_0_X11 zm_d_X11_refuses ⟨rfl, rfl⟩ ⟨Nat.le_of_ble_eq_true rfl, Nat.le_of_ble_eq_true rfl⟩ hl.1 rfl rfl (Nat.le_of_ble_eq_true rfl) dX11_fill_33 ⟨Nat.le_of_ble_eq_true rfl, Nat.le_of_ble_eq_true rfl⟩ (fun H locs w => ?_)
  clear hc
  refine zr_if_eq (tgt := 41) C dX11_fill_36 (by decide) h (fun h => ?_) (fun h => ?_)
  · refine lv_iload_n C.1 C.2.1 dX11_fill_41 rfl (lv_at hl 1 rfl) ?_
    refine lv_i2l C.1 C.2.1 dX11_fill_42 rfl ?_
    refine zr_ltl h (fun v3 h => ?_)
    refine lv_lstore (lv' := [(4, .long v3), (0, .ref (zg_q G 40)), (1, .int y1), (2, .int y2), (3, .int y3)]) C.1 C.2.1 dX11_fill_43 hl (by decide) rfl (fun ls hl => ?_)
    refine lv_iconst (v := 0) C.1 C.2.1 dX11_fill_45 (by decide) ?_
    refine lv_istore (lv' := [(6, .int (0 : Int32)), (4, .long v3), (0, .ref (zg_q G 40)), (1, .int y1), (2, .int y2), (3, .int y3)]) C.1 C.2.1 dX11_fill_46 hl (by decide) rfl (fun ls hl => ?_)
    obtain ⟨S9, hc, h⟩ := zc_b1_x h
    refine zk_X11_fill_48 C y2 y3 S9 (fun H locs ls w hl => ?_) _ _ _ _ hc _ _ _ w (lv_sub hl [2, 4, 5, 1, 0] rfl)
    clear hc
    refine lv_aload_n C.1 C.2.1 dX11_fill_114 rfl (lv_at hl 0 rfl) ?_
    refine zr_get C w 40 zm_w_X11 (zw_g40 G _) rfl 1 (by decide) zm_f_X11_88 rfl dX11_fill_115 ?_
    exact zr_reti C w hr dX11_fill_118 (congrArg Prod.fst (Option.some.inj h)) (congrArg Prod.snd (Option.some.inj h))
  · refine lv_iconst (v := 0) C.1 C.2.1 dX11_fill_39 (by decide) ?_
    exact zr_reti C w hr dX11_fill_40 (congrArg Prod.fst (Option.some.inj h)) (congrArg Prod.snd (Option.some.inj h))
set_option maxHeartbeats 4000000 in
set_option maxRecDepth 100000 in
theorem zq_X11_fill_12 {p : Program} {l : Launch} {e : Env} {s : State} {m : MethodId} {args : Array Value} {below : List Frame} {meth : Method} {c : Code} {G : zg_T} (hr : meth.sig.returnType = (some .int)) (C : zx_C p s m args meth c G RX11 cX11_fill 9) (r : Int32) (S1 : zs_T) (S : zs_T) (y1 : Int32) (y2 : Int32) (y3 : Int32) (h : zj_X11_fill_12 S y1 y2 y3 = some (r, S1)) (H : Heap) (locs : List Loc) (ls : Array Slot) (w : zg_W G S s H locs) (hl : lv_has ls 9 [(0, .ref (zg_q G 40)), (1, .int y1), (2, .int y2), (3, .int y3)]) : W p l e zr_m_X11_fill s m args below meth c H locs 0 0 (MQ below (zg_Q G (some (.int r)) S1) args s 0 0 (zg_A G)) (F0 m 12 ls [.ref (zg_q G 40)]) := by
  unfold zj_X11_fill_12 at h
  refine lv_iconst (v := 1) C.1 C.2.1 dX11_fill_12 (by decide) ?_
  refine lv_goto (tgt := 33) C.1 C.2.1 dX11_fill_13 (by decide) ?_
  exact zq_X11_fill_33 hr C _ _ _ _ _ _ _ h _ _ _ w (lv_sub hl [0, 1, 2, 3] rfl)
set_option maxHeartbeats 4000000 in
set_option maxRecDepth 100000 in
theorem zm_X11_fill (l : Launch) (G : zg_T) (S : zs_T) (a1 : Int32) (a2 : Int32) (a3 : Int32) (r : Int32) (S1 : zs_T) (h : zf_X11_fill S a1 a2 a3 = some (r, S1)) : Met l yX11_fill (Cond.code yX11_fill cX11_fill 9 (some .int) :: zt_G) zr_m_X11_fill (va_Pc [.ref (zg_q G 40), .int a1, .int a2, .int a3] (zg_P G S)) (zg_Q G (some (.int r)) S1) 0 0 (zg_A G) := by
  refine zx_met (by decide +kernel) (Nat.le_of_ble_eq_true rfl) (lv := [(0, .ref (zg_q G 40)), (1, .int a1), (2, .int a2), (3, .int a3)]) rfl ?_
  intro p e s m below meth c C hr w ls hl
  replace C : zx_C p s m _ meth c G RX11 cX11_fill 9 := C
  unfold zf_X11_fill at h
  refine lv_aload_n C.1 C.2.1 dX11_fill_0 rfl (lv_at hl 0 rfl) ?_
  refine lv_iload_n C.1 C.2.1 dX11_fill_1 rfl (lv_at hl 3 rfl) ?_
  refine zr_if_lt (tgt := 12) C dX11_fill_2 (by decide) h (fun h => ?_) (fun h => ?_)
  · exact zq_X11_fill_12 hr C _ _ _ _ _ _ h _ _ _ w (lv_sub hl [0, 1, 2, 3] rfl)
  · refine lv_iload_n C.1 C.2.1 dX11_fill_5 rfl (lv_at hl 3 rfl) ?_
    refine lv_sipush (v := 160) C.1 C.2.1 dX11_fill_6 (by decide) ?_
    refine zr_ic_le (tgt := 16) C dX11_fill_9 (by decide) h (fun h => ?_) (fun h => ?_)
    · refine lv_aload_n C.1 C.2.1 dX11_fill_16 rfl (lv_at hl 0 rfl) ?_
      refine zr_get C w 40 zm_w_X11 (zw_g40 G _) rfl 1 (by decide) zm_f_X11_88 rfl dX11_fill_17 ?_
      refine lv_iload_n C.1 C.2.1 dX11_fill_20 rfl (lv_at hl 3 rfl) ?_
      refine lv_iadd C.1 C.2.1 dX11_fill_21 ?_
      refine lv_sipush (v := 160) C.1 C.2.1 dX11_fill_22 (by decide) ?_
      refine zr_ic_le (tgt := 32) C dX11_fill_25 (by decide) h (fun h => ?_) (fun h => ?_)
      · refine lv_iconst (v := 0) C.1 C.2.1 dX11_fill_32 (by decide) ?_
        exact zq_X11_fill_33 hr C _ _ _ _ _ _ _ h _ _ _ w (lv_sub hl [0, 1, 2, 3] rfl)
      · refine lv_iconst (v := 2) C.1 C.2.1 dX11_fill_28 (by decide) ?_
        refine lv_goto (tgt := 33) C.1 C.2.1 dX11_fill_29 (by decide) ?_
        exact zq_X11_fill_33 hr C _ _ _ _ _ _ _ h _ _ _ w (lv_sub hl [0, 1, 2, 3] rfl)
    · exact zq_X11_fill_12 hr C _ _ _ _ _ _ h _ _ _ w (lv_sub hl [0, 1, 2, 3] rfl)
set_option maxHeartbeats 4000000 in
set_option maxRecDepth 100000 in
theorem zm_X11_cut (l : Launch) (G : zg_T) (S : zs_T) (a1 : Int64) (r : Int64) (h : zf_X11_cut a1 = r) : Met l yX11_cut (Cond.code yX11_cut cX11_cut 2 (some .long) :: zt_G) zr_m_X11_cut (va_Pc [.long a1] (zg_P G S)) (zg_Q G (some (.long r)) S) 0 0 (zg_A G) := by
  refine zx_met (by decide +kernel) (Nat.le_of_ble_eq_true rfl) (lv := [(0, .long a1)]) rfl ?_
  intro p e s m below meth c C hr w ls hl
  replace C : zx_C p s m _ meth c G RX11 cX11_cut 2 := C
  unfold zf_X11_cut at h
  refine lv_lload_n C.1 C.2.1 dX11_cut_0 rfl (lv_at hl 0 rfl) ?_
  refine lv_ldc2 (v := 32767) C.1 C.2.1 C.2.2.2.1 (C.2.2.2.2.1 _ zm_k_X11_72) dX11_cut_1 ?_
  refine zr_lc_le (tgt := 14) C dX11_cut_4 dX11_cut_5 (by decide) h (fun h => ?_) (fun h => ?_)
  · refine lv_lload_n C.1 C.2.1 dX11_cut_14 rfl (lv_at hl 0 rfl) ?_
    refine lv_ldc2 (v := -32768) C.1 C.2.1 C.2.2.2.1 (C.2.2.2.2.1 _ zm_k_X11_74) dX11_cut_15 ?_
    refine zr_lc_ge (tgt := 28) C dX11_cut_18 dX11_cut_19 (by decide) h (fun h => ?_) (fun h => ?_)
    · refine lv_lload_n C.1 C.2.1 dX11_cut_28 rfl (lv_at hl 0 rfl) ?_
      exact zr_retl C w hr dX11_cut_29 h rfl
    · refine lv_ldc2 (v := -32768) C.1 C.2.1 C.2.2.2.1 (C.2.2.2.2.1 _ zm_k_X11_74) dX11_cut_22 ?_
      refine lv_goto (tgt := 29) C.1 C.2.1 dX11_cut_25 (by decide) ?_
      exact zr_retl C w hr dX11_cut_29 h rfl
  · refine lv_ldc2 (v := 32767) C.1 C.2.1 C.2.2.2.1 (C.2.2.2.2.1 _ zm_k_X11_72) dX11_cut_8 ?_
    refine lv_goto (tgt := 29) C.1 C.2.1 dX11_cut_11 (by decide) ?_
    exact zr_retl C w hr dX11_cut_29 h rfl
set_option maxHeartbeats 4000000 in
set_option maxRecDepth 100000 in
theorem zm_X11_rounded (l : Launch) (G : zg_T) (S : zs_T) (a1 : Int64) (a2 : Int64) (r : Int64) (h : zf_X11_rounded a1 a2 = r) : Met l yX11_rounded (Cond.code yX11_rounded cX11_rounded 4 (some .long) :: zt_G) zr_m_X11_rounded (va_Pc [.long a1, .long a2] (zg_P G S)) (zg_Q G (some (.long r)) S) 0 0 (zg_A G) := by
  refine zx_met (by decide +kernel) (Nat.le_of_ble_eq_true rfl) (lv := [(0, .long a1), (2, .long a2)]) rfl ?_
  intro p e s m below meth c C hr w ls hl
  replace C : zx_C p s m _ meth c G RX11 cX11_rounded 4 := C
  unfold zf_X11_rounded at h
  refine lv_lload_n C.1 C.2.1 dX11_rounded_0 rfl (lv_at hl 0 rfl) ?_
  refine lv_lload_n C.1 C.2.1 dX11_rounded_1 rfl (lv_at hl 1 rfl) ?_
  refine lv_lmul C.1 C.2.1 dX11_rounded_2 ?_
  refine lv_ldc2 (v := 16384) C.1 C.2.1 C.2.2.2.1 (C.2.2.2.2.1 _ zm_k_X11_80) dX11_rounded_3 ?_
  refine lv_ladd C.1 C.2.1 dX11_rounded_6 ?_
  refine lv_bipush (v := 15) C.1 C.2.1 dX11_rounded_7 (by decide) ?_
  refine lv_lshr C.1 C.2.1 dX11_rounded_9 rfl ?_
  refine zr_callSl C w (As := [.long (((a1 * a2) + (16384 : Int64)) >>> (Int32.toInt64 (15 : Int32) &&& 63))]) (zm_X11_cut l G _ _ _ rfl) zm_c_X11_cut zm_l_X11_82 zm_s_X11_cut zm_0_X11 zm_d_X11_cut ⟨rfl, rfl⟩ ⟨Nat.le_of_ble_eq_true rfl, Nat.le_of_ble_eq_true rfl⟩ hl.1 rfl rfl (Nat.le_of_ble_eq_true rfl) dX11_rounded_10 ⟨Nat.le_of_ble_eq_true rfl, Nat.le_of_ble_eq_true rfl⟩ (fun H locs w => ?_)
  refine zr_ltl h (fun v1 h => ?_)
  exact zr_retl C w hr dX11_rounded_13 h rfl
set_option maxHeartbeats 4000000 in
set_option maxRecDepth 100000 in
theorem zm_X11_wide (l : Launch) (G : zg_T) (S : zs_T) (a1 : Int64) (r : Int64) (h : zf_X11_wide a1 = r) : Met l yX11_wide (Cond.code yX11_wide cX11_wide 2 (some .long) :: zt_G) zr_m_X11_wide (va_Pc [.long a1] (zg_P G S)) (zg_Q G (some (.long r)) S) 0 0 (zg_A G) := by
  refine zx_met (by decide +kernel) (Nat.le_of_ble_eq_true rfl) (lv := [(0, .long a1)]) rfl ?_
  intro p e s m below meth c C hr w ls hl
  replace C : zx_C p s m _ meth c G RX11 cX11_wide 2 := C
  unfold zf_X11_wide at h
  refine lv_lload_n C.1 C.2.1 dX11_wide_0 rfl (lv_at hl 0 rfl) ?_
  refine lv_ldc2 (v := 2147483647) C.1 C.2.1 C.2.2.2.1 (C.2.2.2.2.1 _ zm_k_X11_76) dX11_wide_1 ?_
  refine zr_lc_le (tgt := 14) C dX11_wide_4 dX11_wide_5 (by decide) h (fun h => ?_) (fun h => ?_)
  · refine lv_lload_n C.1 C.2.1 dX11_wide_14 rfl (lv_at hl 0 rfl) ?_
    refine lv_ldc2 (v := -2147483648) C.1 C.2.1 C.2.2.2.1 (C.2.2.2.2.1 _ zm_k_X11_78) dX11_wide_15 ?_
    refine zr_lc_ge (tgt := 28) C dX11_wide_18 dX11_wide_19 (by decide) h (fun h => ?_) (fun h => ?_)
    · refine lv_lload_n C.1 C.2.1 dX11_wide_28 rfl (lv_at hl 0 rfl) ?_
      exact zr_retl C w hr dX11_wide_29 h rfl
    · refine lv_ldc2 (v := -2147483648) C.1 C.2.1 C.2.2.2.1 (C.2.2.2.2.1 _ zm_k_X11_78) dX11_wide_22 ?_
      refine lv_goto (tgt := 29) C.1 C.2.1 dX11_wide_25 (by decide) ?_
      exact zr_retl C w hr dX11_wide_29 h rfl
  · refine lv_ldc2 (v := 2147483647) C.1 C.2.1 C.2.2.2.1 (C.2.2.2.2.1 _ zm_k_X11_76) dX11_wide_8 ?_
    refine lv_goto (tgt := 29) C.1 C.2.1 dX11_wide_11 (by decide) ?_
    exact zr_retl C w hr dX11_wide_29 h rfl
set_option maxHeartbeats 4000000 in
set_option maxRecDepth 100000 in
theorem zk_X11_prepares_2 {p : Program} {l : Launch} {e : Env} {s : State} {m : MethodId} {args : Array Value} {below : List Frame} {meth : Method} {c : Code} {G : zg_T} {Q : State → Prop} (C : zx_C p s m args meth c G RX11 cX11_prepares 12) (oS : zs_T) (kont : ∀ (H : Heap) (locs : List Loc) (ls : Array Slot), zg_W G oS s H locs → lv_has ls 12 [] → W p l e zr_m_X11_prepares s m args below meth c H locs 0 0 Q (F0 m 139 ls [])) : ∀ (n : Nat) (S : zs_T) (x1 : Int32), zl_2 (zb_X11_prepares_2) n S x1 = some oS → ∀ (H : Heap) (locs : List Loc) (ls : Array Slot), zg_W G S s H locs → lv_has ls 12 [(0, .ref (zg_q G 40)), (1, .int x1)] → W p l e zr_m_X11_prepares s m args below meth c H locs 0 0 Q (F0 m 2 ls []) := by
  intro n
  induction n with
  | zero => intro S x1 h; cases h
  | succ n ih =>
    intro S x1 h H locs ls w hl
    replace h : zb_X11_prepares_2 (zl_2 (zb_X11_prepares_2) n) S x1 = some oS := h
    generalize zl_2 (zb_X11_prepares_2) n = rec at ih h
    unfold zb_X11_prepares_2 at h
    refine lv_iload_n C.1 C.2.1 dX11_prepares_2 rfl (lv_at hl 1 rfl) ?_
    refine lv_sipush (v := 160) C.1 C.2.1 dX11_prepares_3 (by decide) ?_
    refine zr_ic_ge (tgt := 139) C dX11_prepares_6 (by decide) h (fun h => ?_) (fun h => ?_)
    · cases h
      exact kont _ _ _ w (lv_sub hl [] rfl)
    · refine lv_aload_n C.1 C.2.1 dX11_prepares_9 rfl (lv_at hl 0 rfl) ?_
      refine zr_get C w 40 zm_w_X11 (zw_g40 G _) rfl 2 (by decide) zm_f_X11_7 rfl dX11_prepares_10 ?_
      refine lv_iload_n C.1 C.2.1 dX11_prepares_13 rfl (lv_at hl 1 rfl) ?_
      refine zr_lald C w 41 (zw_g41 G _) dX11_prepares_14 h (fun h => ?_)
      refine lv_iconst (v := 3) C.1 C.2.1 dX11_prepares_15 (by decide) ?_
      refine lv_lshr C.1 C.2.1 dX11_prepares_16 rfl ?_
      refine lv_ldc2 (v := 4) C.1 C.2.1 C.2.2.2.1 (C.2.2.2.2.1 _ zm_k_X11_99) dX11_prepares_17 ?_
      refine lv_lmul C.1 C.2.1 dX11_prepares_20 ?_
      refine zr_ltl h (fun v1 h => ?_)
      refine lv_lstore_n (lv' := [(2, .long v1), (0, .ref (zg_q G 40)), (1, .int x1)]) C.1 C.2.1 dX11_prepares_21 rfl hl (by decide) rfl (fun ls hl => ?_)
      refine lv_lload_n C.1 C.2.1 dX11_prepares_22 rfl (lv_at hl 0 rfl) ?_
      refine lv_aload_n C.1 C.2.1 dX11_prepares_23 rfl (lv_at hl 1 rfl) ?_
      refine zr_get C w 40 zm_w_X11 (zw_g40 G _) rfl 9 (by decide) zm_f_X11_101 rfl dX11_prepares_24 ?_
      refine lv_lsub C.1 C.2.1 dX11_prepares_27 ?_
      refine lv_ldc2 (v := 32768) C.1 C.2.1 C.2.2.2.1 (C.2.2.2.2.1 _ zm_k_X11_105) dX11_prepares_28 ?_
      refine lv_lmul C.1 C.2.1 dX11_prepares_31 ?_
      refine zr_ltl h (fun v2 h => ?_)
      refine lv_lstore (lv' := [(4, .long v2), (2, .long v1), (0, .ref (zg_q G 40)), (1, .int x1)]) C.1 C.2.1 dX11_prepares_32 hl (by decide) rfl (fun ls hl => ?_)
      refine lv_aload_n C.1 C.2.1 dX11_prepares_34 rfl (lv_at hl 2 rfl) ?_
      refine lv_lload_n C.1 C.2.1 dX11_prepares_35 rfl (lv_at hl 1 rfl) ?_
      refine zr_put C w 40 zm_w_X11 tyX11 tyX11_ok nmX11 (zw_g40 G _) rfl 9 (by decide) zm_f_X11_101 rfl (ty := .long) (by decide +kernel) rfl rfl (Nat.le_of_ble_eq_true rfl) (zw_f40_9 G _ _) dX11_prepares_36 h (fun S3 H locs w h => ?_)
      refine lv_aload_n C.1 C.2.1 dX11_prepares_39 rfl (lv_at hl 2 rfl) ?_
      refine zr_get C w 40 zm_w_X11 (zw_g40 G _) rfl 10 (by decide) zm_f_X11_107 rfl dX11_prepares_40 ?_
      refine lv_bipush (v := 15) C.1 C.2.1 dX11_prepares_43 (by decide) ?_
      refine lv_lshr C.1 C.2.1 dX11_prepares_45 rfl ?_
      refine zr_ltl h (fun v4 h => ?_)
      refine lv_lstore (lv' := [(6, .long v4), (4, .long v2), (2, .long v1), (0, .ref (zg_q G 40)), (1, .int x1)]) C.1 C.2.1 dX11_prepares_46 hl (by decide) rfl (fun ls hl => ?_)
      refine lv_aload_n C.1 C.2.1 dX11_prepares_48 rfl (lv_at hl 3 rfl) ?_
      refine zr_get C w 40 zm_w_X11 (zw_g40 G _) rfl 10 (by decide) zm_f_X11_107 rfl dX11_prepares_49 ?_
      refine lv_lload C.1 C.2.1 dX11_prepares_52 (lv_at hl 0 rfl) ?_
      refine lv_ldc2 (v := 32768) C.1 C.2.1 C.2.2.2.1 (C.2.2.2.2.1 _ zm_k_X11_105) dX11_prepares_54 ?_
      refine lv_lmul C.1 C.2.1 dX11_prepares_57 ?_
      refine lv_lsub C.1 C.2.1 dX11_prepares_58 ?_
      refine zr_ltl h (fun v5 h => ?_)
      refine lv_lstore (lv' := [(8, .long v5), (6, .long v4), (4, .long v2), (2, .long v1), (0, .ref (zg_q G 40)), (1, .int x1)]) C.1 C.2.1 dX11_prepares_59 hl (by decide) rfl (fun ls hl => ?_)
      refine lv_aload_n C.1 C.2.1 dX11_prepares_61 rfl (lv_at hl 4 rfl) ?_
      refine lv_lload C.1 C.2.1 dX11_prepares_62 (lv_at hl 1 rfl) ?_
      refine lv_ldc2 (v := 32735) C.1 C.2.1 C.2.2.2.1 (C.2.2.2.2.1 _ zm_k_X11_110) dX11_prepares_64 ?_
      refine lv_lmul C.1 C.2.1 dX11_prepares_67 ?_
      refine lv_lload C.1 C.2.1 dX11_prepares_68 (lv_at hl 2 rfl) ?_
      refine lv_ladd C.1 C.2.1 dX11_prepares_70 ?_
      refine lv_lload C.1 C.2.1 dX11_prepares_71 (lv_at hl 0 rfl) ?_
      refine lv_ldc2 (v := 32735) C.1 C.2.1 C.2.2.2.1 (C.2.2.2.2.1 _ zm_k_X11_110) dX11_prepares_73 ?_
      refine zr_callSl C w (As := [.long v5, .long (32735 : Int64)]) (zm_X11_rounded l G _ _ _ _ rfl) zm_c_X11_rounded zm_l_X11_112 zm_s_X11_rounded zm_0_X11 zm_d_X11_rounded ⟨rfl, rfl⟩ ⟨Nat.le_of_ble_eq_true rfl, Nat.le_of_ble_eq_true rfl⟩ hl.1 rfl rfl (Nat.le_of_ble_eq_true rfl) dX11_prepares_76 ⟨Nat.le_of_ble_eq_true rfl, Nat.le_of_ble_eq_true rfl⟩ (fun H locs w => ?_)
      refine zr_ltl h (fun v6 h => ?_)
      refine lv_ladd C.1 C.2.1 dX11_prepares_79 ?_
      refine zr_callSl C w (As := [.long (((v4 * (32735 : Int64)) + v2) + v6)]) (zm_X11_wide l G _ _ _ rfl) zm_c_X11_wide zm_l_X11_116 zm_s_X11_wide zm_0_X11 zm_d_X11_wide ⟨rfl, rfl⟩ ⟨Nat.le_of_ble_eq_true rfl, Nat.le_of_ble_eq_true rfl⟩ hl.1 rfl rfl (Nat.le_of_ble_eq_true rfl) dX11_prepares_80 ⟨Nat.le_of_ble_eq_true rfl, Nat.le_of_ble_eq_true rfl⟩ (fun H locs w => ?_)
      refine zr_ltl h (fun v7 h => ?_)
      refine zr_put C w 40 zm_w_X11 tyX11 tyX11_ok nmX11 (zw_g40 G _) rfl 10 (by decide) zm_f_X11_107 rfl (ty := .long) (by decide +kernel) rfl rfl (Nat.le_of_ble_eq_true rfl) (zw_f40_10 G _ _) dX11_prepares_83 h (fun S8 H locs w h => ?_)
      refine lv_aload_n C.1 C.2.1 dX11_prepares_86 rfl (lv_at hl 4 rfl) ?_
      refine zr_get C w 40 zm_w_X11 (zw_g40 G _) rfl 10 (by decide) zm_f_X11_107 rfl dX11_prepares_87 ?_
      refine lv_ldc2 (v := 16384) C.1 C.2.1 C.2.2.2.1 (C.2.2.2.2.1 _ zm_k_X11_80) dX11_prepares_90 ?_
      refine lv_ladd C.1 C.2.1 dX11_prepares_93 ?_
      refine zr_callSl C w (As := [.long ((S8.2 40 10) + (16384 : Int64))]) (zm_X11_wide l G _ _ _ rfl) zm_c_X11_wide zm_l_X11_116 zm_s_X11_wide zm_0_X11 zm_d_X11_wide ⟨rfl, rfl⟩ ⟨Nat.le_of_ble_eq_true rfl, Nat.le_of_ble_eq_true rfl⟩ hl.1 rfl rfl (Nat.le_of_ble_eq_true rfl) dX11_prepares_94 ⟨Nat.le_of_ble_eq_true rfl, Nat.le_of_ble_eq_true rfl⟩ (fun H locs w => ?_)
      refine zr_ltl h (fun v9 h => ?_)
      refine lv_bipush (v := 15) C.1 C.2.1 dX11_prepares_97 (by decide) ?_
      refine lv_lshr C.1 C.2.1 dX11_prepares_99 rfl ?_
      refine zr_callSl C w (As := [.long (v9 >>> (Int32.toInt64 (15 : Int32) &&& 63))]) (zm_X11_cut l G _ _ _ rfl) zm_c_X11_cut zm_l_X11_82 zm_s_X11_cut zm_0_X11 zm_d_X11_cut ⟨rfl, rfl⟩ ⟨Nat.le_of_ble_eq_true rfl, Nat.le_of_ble_eq_true rfl⟩ hl.1 rfl rfl (Nat.le_of_ble_eq_true rfl) dX11_prepares_100 ⟨Nat.le_of_ble_eq_true rfl, Nat.le_of_ble_eq_true rfl⟩ (fun H locs w => ?_)
      refine zr_ltl h (fun v10 h => ?_)
      refine lv_lstore (lv' := [(10, .long v10), (8, .long v5), (6, .long v4), (4, .long v2), (2, .long v1), (0, .ref (zg_q G 40)), (1, .int x1)]) C.1 C.2.1 dX11_prepares_103 hl (by decide) rfl (fun ls hl => ?_)
      refine lv_aload_n C.1 C.2.1 dX11_prepares_105 rfl (lv_at hl 5 rfl) ?_
      refine zr_get C w 40 zm_w_X11 (zw_g40 G _) rfl 18 (by decide) zm_f_X11_39 rfl dX11_prepares_106 ?_
      refine lv_iload_n C.1 C.2.1 dX11_prepares_109 rfl (lv_at hl 6 rfl) ?_
      refine lv_lload C.1 C.2.1 dX11_prepares_110 (lv_at hl 0 rfl) ?_
      refine lv_aload_n C.1 C.2.1 dX11_prepares_112 rfl (lv_at hl 5 rfl) ?_
      refine zr_get C w 40 zm_w_X11 (zw_g40 G _) rfl 11 (by decide) zm_f_X11_119 rfl dX11_prepares_113 ?_
      refine lv_ldc2 (v := -28180) C.1 C.2.1 C.2.2.2.1 (C.2.2.2.2.1 _ zm_k_X11_122) dX11_prepares_116 ?_
      refine zr_callSl C w (As := [.long (S8.2 40 11), .long (-28180 : Int64)]) (zm_X11_rounded l G _ _ _ _ rfl) zm_c_X11_rounded zm_l_X11_112 zm_s_X11_rounded zm_0_X11 zm_d_X11_rounded ⟨rfl, rfl⟩ ⟨Nat.le_of_ble_eq_true rfl, Nat.le_of_ble_eq_true rfl⟩ hl.1 rfl rfl (Nat.le_of_ble_eq_true rfl) dX11_prepares_119 ⟨Nat.le_of_ble_eq_true rfl, Nat.le_of_ble_eq_true rfl⟩ (fun H locs w => ?_)
      refine zr_ltl h (fun v11 h => ?_)
      refine lv_ladd C.1 C.2.1 dX11_prepares_122 ?_
      refine zr_callSl C w (As := [.long (v10 + v11)]) (zm_X11_cut l G _ _ _ rfl) zm_c_X11_cut zm_l_X11_82 zm_s_X11_cut zm_0_X11 zm_d_X11_cut ⟨rfl, rfl⟩ ⟨Nat.le_of_ble_eq_true rfl, Nat.le_of_ble_eq_true rfl⟩ hl.1 rfl rfl (Nat.le_of_ble_eq_true rfl) dX11_prepares_123 ⟨Nat.le_of_ble_eq_true rfl, Nat.le_of_ble_eq_true rfl⟩ (fun H locs w => ?_)
      refine zr_ltl h (fun v12 h => ?_)
      refine zr_last C w 49 (zw_g49 G _) (zw_s49 G _) dX11_prepares_126 h (fun S13 H locs w h => ?_)
      refine lv_aload_n C.1 C.2.1 dX11_prepares_127 rfl (lv_at hl 5 rfl) ?_
      refine lv_lload C.1 C.2.1 dX11_prepares_128 (lv_at hl 0 rfl) ?_
      refine zr_put C w 40 zm_w_X11 tyX11 tyX11_ok nmX11 (zw_g40 G _) rfl 11 (by decide) zm_f_X11_119 rfl (ty := .long) (by decide +kernel) rfl rfl (Nat.le_of_ble_eq_true rfl) (zw_f40_11 G _ _) dX11_prepares_130 h (fun S14 H locs w h => ?_)
      obtain ⟨v15, e_, h⟩ := zc_lt_x h
      refine lv_iinc (v := v15) (lv' := [(1, .int v15), (10, .long v10), (8, .long v5), (6, .long v4), (4, .long v2), (2, .long v1), (0, .ref (zg_q G 40))]) C.1 C.2.1 dX11_prepares_133 hl (k := 6) rfl (by subst e_; rfl) (by decide) rfl (fun ls hl => ?_)
      clear e_
      refine lv_goto (tgt := 2) C.1 C.2.1 dX11_prepares_136 (by decide) ?_
      exact ih _ _ h _ _ _ w (lv_sub hl [6, 0] rfl)
set_option maxHeartbeats 4000000 in
set_option maxRecDepth 100000 in
theorem zm_X11_prepares (l : Launch) (G : zg_T) (S : zs_T) (S1 : zs_T) (h : zf_X11_prepares S = some S1) : Met l yX11_prepares (Cond.code yX11_prepares cX11_prepares 12 none :: zt_G) zr_m_X11_prepares (va_Pc [.ref (zg_q G 40)] (zg_P G S)) (zg_Q G none S1) 0 0 (zg_A G) := by
  refine zx_met (by decide +kernel) (Nat.le_of_ble_eq_true rfl) (lv := [(0, .ref (zg_q G 40))]) rfl ?_
  intro p e s m below meth c C hr w ls hl
  replace C : zx_C p s m _ meth c G RX11 cX11_prepares 12 := C
  unfold zf_X11_prepares at h
  refine lv_iconst (v := 0) C.1 C.2.1 dX11_prepares_0 (by decide) ?_
  refine lv_istore_n (lv' := [(1, .int (0 : Int32)), (0, .ref (zg_q G 40))]) C.1 C.2.1 dX11_prepares_1 rfl hl (by decide) rfl (fun ls hl => ?_)
  obtain ⟨S16, hc, h⟩ := zc_b1_x h
  refine zk_X11_prepares_2 C S16 (fun H locs ls w hl => ?_) _ _ _ hc _ _ _ w (lv_sub hl [1, 0] rfl)
  clear hc
  exact zr_retv C w hr dX11_prepares_139 (Option.some.inj h)
set_option maxHeartbeats 4000000 in
set_option maxRecDepth 100000 in
theorem zm_X11_size (l : Launch) (G : zg_T) (S : zs_T) (a1 : Int64) (r : Int64) (h : zf_X11_size a1 = r) : Met l yX11_size (Cond.code yX11_size cX11_size 2 (some .long) :: zt_G) zr_m_X11_size (va_Pc [.long a1] (zg_P G S)) (zg_Q G (some (.long r)) S) 0 0 (zg_A G) := by
  refine zx_met (by decide +kernel) (Nat.le_of_ble_eq_true rfl) (lv := [(0, .long a1)]) rfl ?_
  intro p e s m below meth c C hr w ls hl
  replace C : zx_C p s m _ meth c G RX11 cX11_size 2 := C
  unfold zf_X11_size at h
  refine lv_lload_n C.1 C.2.1 dX11_size_0 rfl (lv_at hl 0 rfl) ?_
  refine lv_lconst (v := 0) C.1 C.2.1 dX11_size_1 (by decide) ?_
  refine zr_lc_ge (tgt := 11) C dX11_size_2 dX11_size_3 (by decide) h (fun h => ?_) (fun h => ?_)
  · refine lv_lload_n C.1 C.2.1 dX11_size_11 rfl (lv_at hl 0 rfl) ?_
    refine zr_callSl C w (As := [.long a1]) (zm_X11_cut l G _ _ _ rfl) zm_c_X11_cut zm_l_X11_82 zm_s_X11_cut zm_0_X11 zm_d_X11_cut ⟨rfl, rfl⟩ ⟨Nat.le_of_ble_eq_true rfl, Nat.le_of_ble_eq_true rfl⟩ hl.1 rfl rfl (Nat.le_of_ble_eq_true rfl) dX11_size_12 ⟨Nat.le_of_ble_eq_true rfl, Nat.le_of_ble_eq_true rfl⟩ (fun H locs w => ?_)
    refine zr_ltl h (fun v1 h => ?_)
    exact zr_retl C w hr dX11_size_15 h rfl
  · refine lv_lload_n C.1 C.2.1 dX11_size_6 rfl (lv_at hl 0 rfl) ?_
    refine lv_lneg C.1 C.2.1 dX11_size_7 ?_
    refine lv_goto (tgt := 12) C.1 C.2.1 dX11_size_8 (by decide) ?_
    refine zr_callSl C w (As := [.long (-a1)]) (zm_X11_cut l G _ _ _ rfl) zm_c_X11_cut zm_l_X11_82 zm_s_X11_cut zm_0_X11 zm_d_X11_cut ⟨rfl, rfl⟩ ⟨Nat.le_of_ble_eq_true rfl, Nat.le_of_ble_eq_true rfl⟩ hl.1 rfl rfl (Nat.le_of_ble_eq_true rfl) dX11_size_12 ⟨Nat.le_of_ble_eq_true rfl, Nat.le_of_ble_eq_true rfl⟩ (fun H locs w => ?_)
    refine zr_ltl h (fun v2 h => ?_)
    exact zr_retl C w hr dX11_size_15 h rfl
set_option maxHeartbeats 4000000 in
set_option maxRecDepth 100000 in
theorem zk_X11_greatest_5_49 {p : Program} {l : Launch} {e : Env} {s : State} {m : MethodId} {args : Array Value} {below : List Frame} {meth : Method} {c : Code} {G : zg_T} {Q : State → Prop} (C : zx_C p s m args meth c G RX11 cX11_greatest 6) (S : zs_T) (f1 : Int32) (f2 : Int32) (o3 : Int64) (kont : ∀ (H : Heap) (locs : List Loc) (ls : Array Slot), zg_W G S s H locs → lv_has ls 6 [(3, .long o3)] → W p l e zr_m_X11_greatest s m args below meth c H locs 0 0 Q (F0 m 43 ls [])) : ∀ (n : Nat) (x3 : Int64) (x5 : Int32), zl_2 (zb_X11_greatest_5 49 S f1 f2) n x3 x5 = some o3 → ∀ (H : Heap) (locs : List Loc) (ls : Array Slot), zg_W G S s H locs → lv_has ls 6 [(0, .ref (zg_q G 49)), (1, .int f1), (2, .int f2), (3, .long x3), (5, .int x5)] → W p l e zr_m_X11_greatest s m args below meth c H locs 0 0 Q (F0 m 5 ls []) := by
  intro n
  induction n with
  | zero => intro x3 x5 h; cases h
  | succ n ih =>
    intro x3 x5 h H locs ls w hl
    replace h : zb_X11_greatest_5 49 S f1 f2 (zl_2 (zb_X11_greatest_5 49 S f1 f2) n) x3 x5 = some o3 := h
    generalize zl_2 (zb_X11_greatest_5 49 S f1 f2) n = rec at ih h
    unfold zb_X11_greatest_5 at h
    refine lv_iload C.1 C.2.1 dX11_greatest_5 (lv_at hl 4 rfl) ?_
    refine lv_iload_n C.1 C.2.1 dX11_greatest_7 rfl (lv_at hl 1 rfl) ?_
    refine lv_iload_n C.1 C.2.1 dX11_greatest_8 rfl (lv_at hl 2 rfl) ?_
    refine lv_iadd C.1 C.2.1 dX11_greatest_9 ?_
    refine zr_ic_ge (tgt := 43) C dX11_greatest_10 (by decide) h (fun h => ?_) (fun h => ?_)
    · cases h
      exact kont _ _ _ w (lv_sub hl [3] rfl)
    · refine lv_aload_n C.1 C.2.1 dX11_greatest_13 rfl (lv_at hl 0 rfl) ?_
      refine lv_iload C.1 C.2.1 dX11_greatest_14 (lv_at hl 4 rfl) ?_
      refine zr_lald C w 49 (zw_g49 G _) dX11_greatest_16 h (fun h => ?_)
      refine zr_callSl C w (As := [.long (S.2 49 (Int32.toNatClampNeg x5))]) (zm_X11_size l G _ _ _ rfl) zm_c_X11_size zm_l_X11_124 zm_s_X11_size zm_0_X11 zm_d_X11_size ⟨rfl, rfl⟩ ⟨Nat.le_of_ble_eq_true rfl, Nat.le_of_ble_eq_true rfl⟩ hl.1 rfl rfl (Nat.le_of_ble_eq_true rfl) dX11_greatest_17 ⟨Nat.le_of_ble_eq_true rfl, Nat.le_of_ble_eq_true rfl⟩ (fun H locs w => ?_)
      refine zr_ltl h (fun v1 h => ?_)
      refine lv_lload_n C.1 C.2.1 dX11_greatest_20 rfl (lv_at hl 3 rfl) ?_
      refine zr_lc_le (tgt := 35) C dX11_greatest_21 dX11_greatest_22 (by decide) h (fun h => ?_) (fun h => ?_)
      · refine lv_lload_n C.1 C.2.1 dX11_greatest_35 rfl (lv_at hl 3 rfl) ?_
        refine lv_lstore_n (lv' := [(3, .long x3), (0, .ref (zg_q G 49)), (1, .int f1), (2, .int f2), (5, .int x5)]) C.1 C.2.1 dX11_greatest_36 rfl hl (by decide) rfl (fun ls hl => ?_)
        obtain ⟨v2, e_, h⟩ := zc_lt_x h
        refine lv_iinc (v := v2) (lv' := [(5, .int v2), (3, .long x3), (0, .ref (zg_q G 49)), (1, .int f1), (2, .int f2)]) C.1 C.2.1 dX11_greatest_37 hl (k := 4) rfl (by subst e_; rfl) (by decide) rfl (fun ls hl => ?_)
        clear e_
        refine lv_goto (tgt := 5) C.1 C.2.1 dX11_greatest_40 (by decide) ?_
        exact ih _ _ h _ _ _ w (lv_sub hl [2, 3, 4, 1, 0] rfl)
      · refine lv_aload_n C.1 C.2.1 dX11_greatest_25 rfl (lv_at hl 0 rfl) ?_
        refine lv_iload C.1 C.2.1 dX11_greatest_26 (lv_at hl 4 rfl) ?_
        refine zr_lald C w 49 (zw_g49 G _) dX11_greatest_28 h (fun h => ?_)
        refine zr_callSl C w (As := [.long (S.2 49 (Int32.toNatClampNeg x5))]) (zm_X11_size l G _ _ _ rfl) zm_c_X11_size zm_l_X11_124 zm_s_X11_size zm_0_X11 zm_d_X11_size ⟨rfl, rfl⟩ ⟨Nat.le_of_ble_eq_true rfl, Nat.le_of_ble_eq_true rfl⟩ hl.1 rfl rfl (Nat.le_of_ble_eq_true rfl) dX11_greatest_29 ⟨Nat.le_of_ble_eq_true rfl, Nat.le_of_ble_eq_true rfl⟩ (fun H locs w => ?_)
        refine zr_ltl h (fun v3 h => ?_)
        refine lv_goto (tgt := 36) C.1 C.2.1 dX11_greatest_32 (by decide) ?_
        refine lv_lstore_n (lv' := [(3, .long v3), (0, .ref (zg_q G 49)), (1, .int f1), (2, .int f2), (5, .int x5)]) C.1 C.2.1 dX11_greatest_36 rfl hl (by decide) rfl (fun ls hl => ?_)
        obtain ⟨v4, e_, h⟩ := zc_lt_x h
        refine lv_iinc (v := v4) (lv' := [(5, .int v4), (3, .long v3), (0, .ref (zg_q G 49)), (1, .int f1), (2, .int f2)]) C.1 C.2.1 dX11_greatest_37 hl (k := 4) rfl (by subst e_; rfl) (by decide) rfl (fun ls hl => ?_)
        clear e_
        refine lv_goto (tgt := 5) C.1 C.2.1 dX11_greatest_40 (by decide) ?_
        exact ih _ _ h _ _ _ w (lv_sub hl [2, 3, 4, 1, 0] rfl)
set_option maxHeartbeats 4000000 in
set_option maxRecDepth 100000 in
theorem zm_X11_greatest_49 (l : Launch) (G : zg_T) (S : zs_T) (a1 : Int32) (a2 : Int32) (r : Int64) (h : zf_X11_greatest 49 S a1 a2 = some r) : Met l yX11_greatest (Cond.code yX11_greatest cX11_greatest 6 (some .long) :: zt_G) zr_m_X11_greatest (va_Pc [.ref (zg_q G 49), .int a1, .int a2] (zg_P G S)) (zg_Q G (some (.long r)) S) 0 0 (zg_A G) := by
  refine zx_met (by decide +kernel) (Nat.le_of_ble_eq_true rfl) (lv := [(0, .ref (zg_q G 49)), (1, .int a1), (2, .int a2)]) rfl ?_
  intro p e s m below meth c C hr w ls hl
  replace C : zx_C p s m _ meth c G RX11 cX11_greatest 6 := C
  unfold zf_X11_greatest at h
  refine lv_lconst (v := 0) C.1 C.2.1 dX11_greatest_0 (by decide) ?_
  refine lv_lstore_n (lv' := [(3, .long (0 : Int64)), (0, .ref (zg_q G 49)), (1, .int a1), (2, .int a2)]) C.1 C.2.1 dX11_greatest_1 rfl hl (by decide) rfl (fun ls hl => ?_)
  refine lv_iload_n C.1 C.2.1 dX11_greatest_2 rfl (lv_at hl 2 rfl) ?_
  refine lv_istore (lv' := [(5, .int a1), (3, .long (0 : Int64)), (0, .ref (zg_q G 49)), (1, .int a1), (2, .int a2)]) C.1 C.2.1 dX11_greatest_3 hl (by decide) rfl (fun ls hl => ?_)
  obtain ⟨v5, hc, h⟩ := zc_b1_x h
  refine zk_X11_greatest_5_49 C _ a1 a2 v5 (fun H locs ls w hl => ?_) _ _ _ hc _ _ _ w (lv_sub hl [2, 3, 4, 1, 0] rfl)
  clear hc
  refine lv_lload_n C.1 C.2.1 dX11_greatest_43 rfl (lv_at hl 0 rfl) ?_
  exact zr_retl C w hr dX11_greatest_44 (Option.some.inj h) rfl
set_option maxHeartbeats 4000000 in
set_option maxRecDepth 100000 in
theorem zk_X11_norm_2 {p : Program} {l : Launch} {e : Env} {s : State} {m : MethodId} {args : Array Value} {below : List Frame} {meth : Method} {c : Code} {G : zg_T} {Q : State → Prop} (C : zx_C p s m args meth c G RX11 cX11_norm 3) (S : zs_T) (f0 : Int64) (o2 : Int32) (kont : ∀ (H : Heap) (locs : List Loc) (ls : Array Slot), zg_W G S s H locs → lv_has ls 3 [(2, .int o2)] → W p l e zr_m_X11_norm s m args below meth c H locs 0 0 Q (F0 m 18 ls [])) : ∀ (n : Nat) (x2 : Int32), zl_1 (zb_X11_norm_2 f0) n x2 = some o2 → ∀ (H : Heap) (locs : List Loc) (ls : Array Slot), zg_W G S s H locs → lv_has ls 3 [(0, .long f0), (2, .int x2)] → W p l e zr_m_X11_norm s m args below meth c H locs 0 0 Q (F0 m 2 ls []) := by
  intro n
  induction n with
  | zero => intro x2 h; cases h
  | succ n ih =>
    intro x2 h H locs ls w hl
    replace h : zb_X11_norm_2 f0 (zl_1 (zb_X11_norm_2 f0) n) x2 = some o2 := h
    generalize zl_1 (zb_X11_norm_2 f0) n = rec at ih h
    unfold zb_X11_norm_2 at h
    refine lv_lload_n C.1 C.2.1 dX11_norm_2 rfl (lv_at hl 0 rfl) ?_
    refine lv_iload_n C.1 C.2.1 dX11_norm_3 rfl (lv_at hl 1 rfl) ?_
    refine lv_lshl C.1 C.2.1 dX11_norm_4 rfl ?_
    refine lv_ldc2 (v := 1073741824) C.1 C.2.1 C.2.2.2.1 (C.2.2.2.2.1 _ zm_k_X11_86) dX11_norm_5 ?_
    refine zr_lc_ge (tgt := 18) C dX11_norm_8 dX11_norm_9 (by decide) h (fun h => ?_) (fun h => ?_)
    · cases h
      exact kont _ _ _ w (lv_sub hl [1] rfl)
    · obtain ⟨v1, e_, h⟩ := zc_lt_x h
      refine lv_iinc (v := v1) (lv' := [(2, .int v1), (0, .long f0)]) C.1 C.2.1 dX11_norm_12 hl (k := 1) rfl (by subst e_; rfl) (by decide) rfl (fun ls hl => ?_)
      clear e_
      refine lv_goto (tgt := 2) C.1 C.2.1 dX11_norm_15 (by decide) ?_
      exact ih _ h _ _ _ w (lv_sub hl [1, 0] rfl)
set_option maxHeartbeats 4000000 in
set_option maxRecDepth 100000 in
theorem zm_X11_norm (l : Launch) (G : zg_T) (S : zs_T) (a1 : Int64) (r : Int32) (h : zf_X11_norm a1 = some r) : Met l yX11_norm (Cond.code yX11_norm cX11_norm 3 (some .int) :: zt_G) zr_m_X11_norm (va_Pc [.long a1] (zg_P G S)) (zg_Q G (some (.int r)) S) 0 0 (zg_A G) := by
  refine zx_met (by decide +kernel) (Nat.le_of_ble_eq_true rfl) (lv := [(0, .long a1)]) rfl ?_
  intro p e s m below meth c C hr w ls hl
  replace C : zx_C p s m _ meth c G RX11 cX11_norm 3 := C
  unfold zf_X11_norm at h
  refine lv_iconst (v := 0) C.1 C.2.1 dX11_norm_0 (by decide) ?_
  refine lv_istore_n (lv' := [(2, .int (0 : Int32)), (0, .long a1)]) C.1 C.2.1 dX11_norm_1 rfl hl (by decide) rfl (fun ls hl => ?_)
  obtain ⟨v2, hc, h⟩ := zc_b1_x h
  refine zk_X11_norm_2 C _ a1 v2 (fun H locs ls w hl => ?_) _ _ hc _ _ _ w (lv_sub hl [1, 0] rfl)
  clear hc
  refine lv_iload_n C.1 C.2.1 dX11_norm_18 rfl (lv_at hl 0 rfl) ?_
  exact zr_reti C w hr dX11_norm_19 (Option.some.inj h) rfl
set_option maxHeartbeats 4000000 in
set_option maxRecDepth 100000 in
theorem zk_X11_correlates_95 {p : Program} {l : Launch} {e : Env} {s : State} {m : MethodId} {args : Array Value} {below : List Frame} {meth : Method} {c : Code} {G : zg_T} {Q : State → Prop} (C : zx_C p s m args meth c G RX11 cX11_correlates 8) (S : zs_T) (f3 : Int32) (f4 : Int32) (o5 : Int64) (kont : ∀ (H : Heap) (locs : List Loc) (ls : Array Slot), zg_W G S s H locs → lv_has ls 8 [(0, .ref (zg_q G 40)), (3, .int f3), (4, .int f4), (5, .long o5)] → W p l e zr_m_X11_correlates s m args below meth c H locs 0 0 Q (F0 m 132 ls [])) : ∀ (n : Nat) (x5 : Int64) (x7 : Int32), zl_2 (zb_X11_correlates_95 S f4) n x5 x7 = some o5 → ∀ (H : Heap) (locs : List Loc) (ls : Array Slot), zg_W G S s H locs → lv_has ls 8 [(0, .ref (zg_q G 40)), (3, .int f3), (4, .int f4), (5, .long x5), (7, .int x7)] → W p l e zr_m_X11_correlates s m args below meth c H locs 0 0 Q (F0 m 95 ls []) := by
  intro n
  induction n with
  | zero => intro x5 x7 h; cases h
  | succ n ih =>
    intro x5 x7 h H locs ls w hl
    replace h : zb_X11_correlates_95 S f4 (zl_2 (zb_X11_correlates_95 S f4) n) x5 x7 = some o5 := h
    generalize zl_2 (zb_X11_correlates_95 S f4) n = rec at ih h
    unfold zb_X11_correlates_95 at h
    refine lv_iload C.1 C.2.1 dX11_correlates_95 (lv_at hl 4 rfl) ?_
    refine lv_sipush (v := 160) C.1 C.2.1 dX11_correlates_97 (by decide) ?_
    refine zr_ic_ge (tgt := 132) C dX11_correlates_100 (by decide) h (fun h => ?_) (fun h => ?_)
    · cases h
      exact kont _ _ _ w (lv_sub hl [0, 1, 2, 3] rfl)
    · refine lv_lload C.1 C.2.1 dX11_correlates_103 (lv_at hl 3 rfl) ?_
      refine lv_aload_n C.1 C.2.1 dX11_correlates_105 rfl (lv_at hl 0 rfl) ?_
      refine zr_get C w 40 zm_w_X11 (zw_g40 G _) rfl 18 (by decide) zm_f_X11_39 rfl dX11_correlates_106 ?_
      refine lv_iload C.1 C.2.1 dX11_correlates_109 (lv_at hl 4 rfl) ?_
      refine zr_lald C w 49 (zw_g49 G _) dX11_correlates_111 h (fun h => ?_)
      refine lv_aload_n C.1 C.2.1 dX11_correlates_112 rfl (lv_at hl 0 rfl) ?_
      refine zr_get C w 40 zm_w_X11 (zw_g40 G _) rfl 18 (by decide) zm_f_X11_39 rfl dX11_correlates_113 ?_
      refine lv_iload C.1 C.2.1 dX11_correlates_116 (lv_at hl 4 rfl) ?_
      refine lv_iload C.1 C.2.1 dX11_correlates_118 (lv_at hl 2 rfl) ?_
      refine lv_isub C.1 C.2.1 dX11_correlates_120 ?_
      refine zr_lald C w 49 (zw_g49 G _) dX11_correlates_121 h (fun h => ?_)
      refine lv_lmul C.1 C.2.1 dX11_correlates_122 ?_
      refine lv_ladd C.1 C.2.1 dX11_correlates_123 ?_
      refine zr_ltl h (fun v3 h => ?_)
      refine lv_lstore (lv' := [(5, .long v3), (0, .ref (zg_q G 40)), (3, .int f3), (4, .int f4), (7, .int x7)]) C.1 C.2.1 dX11_correlates_124 hl (by decide) rfl (fun ls hl => ?_)
      obtain ⟨v4, e_, h⟩ := zc_lt_x h
      refine lv_iinc (v := v4) (lv' := [(7, .int v4), (5, .long v3), (0, .ref (zg_q G 40)), (3, .int f3), (4, .int f4)]) C.1 C.2.1 dX11_correlates_126 hl (k := 4) rfl (by subst e_; rfl) (by decide) rfl (fun ls hl => ?_)
      clear e_
      refine lv_goto (tgt := 95) C.1 C.2.1 dX11_correlates_129 (by decide) ?_
      exact ih _ _ h _ _ _ w (lv_sub hl [2, 3, 4, 1, 0] rfl)
set_option maxHeartbeats 4000000 in
set_option maxRecDepth 100000 in
theorem zk_X11_correlates_81 {p : Program} {l : Launch} {e : Env} {s : State} {m : MethodId} {args : Array Value} {below : List Frame} {meth : Method} {c : Code} {G : zg_T} {Q : State → Prop} (C : zx_C p s m args meth c G RX11 cX11_correlates 8) (f3 : Int32) (oS : zs_T) (kont : ∀ (H : Heap) (locs : List Loc) (ls : Array Slot), zg_W G oS s H locs → lv_has ls 8 [(0, .ref (zg_q G 40)), (3, .int f3)] → W p l e zr_m_X11_correlates s m args below meth c H locs 0 0 Q (F0 m 151 ls [])) : ∀ (n : Nat) (S : zs_T) (x4 : Int32), zl_2 (zb_X11_correlates_81) n S x4 = some oS → ∀ (H : Heap) (locs : List Loc) (ls : Array Slot), zg_W G S s H locs → lv_has ls 8 [(0, .ref (zg_q G 40)), (3, .int f3), (4, .int x4)] → W p l e zr_m_X11_correlates s m args below meth c H locs 0 0 Q (F0 m 81 ls []) := by
  intro n
  induction n with
  | zero => intro S x4 h; cases h
  | succ n ih =>
    intro S x4 h H locs ls w hl
    replace h : zb_X11_correlates_81 (zl_2 (zb_X11_correlates_81) n) S x4 = some oS := h
    generalize zl_2 (zb_X11_correlates_81) n = rec at ih h
    unfold zb_X11_correlates_81 at h
    refine lv_iload C.1 C.2.1 dX11_correlates_81 (lv_at hl 2 rfl) ?_
    refine lv_bipush (v := 9) C.1 C.2.1 dX11_correlates_83 (by decide) ?_
    refine zr_ic_ge (tgt := 151) C dX11_correlates_85 (by decide) h (fun h => ?_) (fun h => ?_)
    · cases h
      exact kont _ _ _ w (lv_sub hl [0, 1] rfl)
    · refine lv_lconst (v := 0) C.1 C.2.1 dX11_correlates_88 (by decide) ?_
      refine lv_lstore (lv' := [(5, .long (0 : Int64)), (0, .ref (zg_q G 40)), (3, .int f3), (4, .int x4)]) C.1 C.2.1 dX11_correlates_89 hl (by decide) rfl (fun ls hl => ?_)
      refine lv_iload C.1 C.2.1 dX11_correlates_91 (lv_at hl 3 rfl) ?_
      refine lv_istore (lv' := [(7, .int x4), (5, .long (0 : Int64)), (0, .ref (zg_q G 40)), (3, .int f3), (4, .int x4)]) C.1 C.2.1 dX11_correlates_93 hl (by decide) rfl (fun ls hl => ?_)
      obtain ⟨v5, hc, h⟩ := zc_b1_x h
      refine zk_X11_correlates_95 C _ f3 x4 v5 (fun H locs ls w hl => ?_) _ _ _ hc _ _ _ w (lv_sub hl [2, 3, 4, 1, 0] rfl)
      clear hc
      refine lv_aload_n C.1 C.2.1 dX11_correlates_132 rfl (lv_at hl 0 rfl) ?_
      refine zr_get C w 40 zm_w_X11 (zw_g40 G _) rfl 22 (by decide) zm_f_X11_51 rfl dX11_correlates_133 ?_
      refine lv_iload C.1 C.2.1 dX11_correlates_136 (lv_at hl 2 rfl) ?_
      refine lv_ldc2 (v := 2) C.1 C.2.1 C.2.2.2.1 (C.2.2.2.2.1 _ zm_k_X11_135) dX11_correlates_138 ?_
      refine lv_lload C.1 C.2.1 dX11_correlates_141 (lv_at hl 3 rfl) ?_
      refine lv_lmul C.1 C.2.1 dX11_correlates_143 ?_
      refine zr_last C w 53 (zw_g53 G _) (zw_s53 G _) dX11_correlates_144 h (fun S6 H locs w h => ?_)
      obtain ⟨v7, e_, h⟩ := zc_lt_x h
      refine lv_iinc (v := v7) (lv' := [(4, .int v7), (0, .ref (zg_q G 40)), (3, .int f3), (5, .long v5)]) C.1 C.2.1 dX11_correlates_145 hl (k := 2) rfl (by subst e_; rfl) (by decide) rfl (fun ls hl => ?_)
      clear e_
      refine lv_goto (tgt := 81) C.1 C.2.1 dX11_correlates_148 (by decide) ?_
      exact ih _ _ h _ _ _ w (lv_sub hl [1, 2, 0] rfl)
set_option maxHeartbeats 4000000 in
set_option maxRecDepth 100000 in
theorem zk_X11_correlates_154 {p : Program} {l : Launch} {e : Env} {s : State} {m : MethodId} {args : Array Value} {below : List Frame} {meth : Method} {c : Code} {G : zg_T} {Q : State → Prop} (C : zx_C p s m args meth c G RX11 cX11_correlates 8) (f3 : Int32) (oS : zs_T) (kont : ∀ (H : Heap) (locs : List Loc) (ls : Array Slot), zg_W G oS s H locs → lv_has ls 8 [] → W p l e zr_m_X11_correlates s m args below meth c H locs 0 0 Q (F0 m 191 ls [])) : ∀ (n : Nat) (S : zs_T) (x4 : Int32), zl_2 (zb_X11_correlates_154 f3) n S x4 = some oS → ∀ (H : Heap) (locs : List Loc) (ls : Array Slot), zg_W G S s H locs → lv_has ls 8 [(0, .ref (zg_q G 40)), (3, .int f3), (4, .int x4)] → W p l e zr_m_X11_correlates s m args below meth c H locs 0 0 Q (F0 m 154 ls []) := by
  intro n
  induction n with
  | zero => intro S x4 h; cases h
  | succ n ih =>
    intro S x4 h H locs ls w hl
    replace h : zb_X11_correlates_154 f3 (zl_2 (zb_X11_correlates_154 f3) n) S x4 = some oS := h
    generalize zl_2 (zb_X11_correlates_154 f3) n = rec at ih h
    unfold zb_X11_correlates_154 at h
    refine lv_iload C.1 C.2.1 dX11_correlates_154 (lv_at hl 2 rfl) ?_
    refine lv_sipush (v := 160) C.1 C.2.1 dX11_correlates_156 (by decide) ?_
    refine zr_ic_ge (tgt := 191) C dX11_correlates_159 (by decide) h (fun h => ?_) (fun h => ?_)
    · cases h
      exact kont _ _ _ w (lv_sub hl [] rfl)
    · refine lv_iload_n C.1 C.2.1 dX11_correlates_162 rfl (lv_at hl 1 rfl) ?_
      refine zr_if_le (tgt := 191) C dX11_correlates_163 (by decide) h (fun h => ?_) (fun h => ?_)
      · cases h
        exact kont _ _ _ w (lv_sub hl [] rfl)
      · refine lv_aload_n C.1 C.2.1 dX11_correlates_166 rfl (lv_at hl 0 rfl) ?_
        refine zr_get C w 40 zm_w_X11 (zw_g40 G _) rfl 18 (by decide) zm_f_X11_39 rfl dX11_correlates_167 ?_
        refine lv_iload C.1 C.2.1 dX11_correlates_170 (lv_at hl 2 rfl) ?_
        refine lv_aload_n C.1 C.2.1 dX11_correlates_172 rfl (lv_at hl 0 rfl) ?_
        refine zr_get C w 40 zm_w_X11 (zw_g40 G _) rfl 18 (by decide) zm_f_X11_39 rfl dX11_correlates_173 ?_
        refine lv_iload C.1 C.2.1 dX11_correlates_176 (lv_at hl 2 rfl) ?_
        refine zr_lald C w 49 (zw_g49 G _) dX11_correlates_178 h (fun h => ?_)
        refine lv_iload_n C.1 C.2.1 dX11_correlates_179 rfl (lv_at hl 1 rfl) ?_
        refine lv_lshl C.1 C.2.1 dX11_correlates_180 rfl ?_
        refine zr_callSl C w (As := [.long ((S.2 49 (Int32.toNatClampNeg x4)) <<< (Int32.toInt64 f3 &&& 63))]) (zm_X11_cut l G _ _ _ rfl) zm_c_X11_cut zm_l_X11_82 zm_s_X11_cut zm_0_X11 zm_d_X11_cut ⟨rfl, rfl⟩ ⟨Nat.le_of_ble_eq_true rfl, Nat.le_of_ble_eq_true rfl⟩ hl.1 rfl rfl (Nat.le_of_ble_eq_true rfl) dX11_correlates_181 ⟨Nat.le_of_ble_eq_true rfl, Nat.le_of_ble_eq_true rfl⟩ (fun H locs w => ?_)
        refine zr_ltl h (fun v9 h => ?_)
        refine zr_last C w 49 (zw_g49 G _) (zw_s49 G _) dX11_correlates_184 h (fun S10 H locs w h => ?_)
        obtain ⟨v11, e_, h⟩ := zc_lt_x h
        refine lv_iinc (v := v11) (lv' := [(4, .int v11), (0, .ref (zg_q G 40)), (3, .int f3)]) C.1 C.2.1 dX11_correlates_185 hl (k := 2) rfl (by subst e_; rfl) (by decide) rfl (fun ls hl => ?_)
        clear e_
        refine lv_goto (tgt := 154) C.1 C.2.1 dX11_correlates_188 (by decide) ?_
        exact ih _ _ h _ _ _ w (lv_sub hl [1, 2, 0] rfl)
set_option maxHeartbeats 4000000 in
set_option maxRecDepth 100000 in
theorem zq_X11_correlates_78 {p : Program} {l : Launch} {e : Env} {s : State} {m : MethodId} {args : Array Value} {below : List Frame} {meth : Method} {c : Code} {G : zg_T} (hr : meth.sig.returnType = none) (C : zx_C p s m args meth c G RX11 cX11_correlates 8) (S1 : zs_T) (S : zs_T) (y3 : Int32) (h : zj_X11_correlates_78 S y3 = some S1) (H : Heap) (locs : List Loc) (ls : Array Slot) (w : zg_W G S s H locs) (hl : lv_has ls 8 [(0, .ref (zg_q G 40)), (3, .int y3)]) : W p l e zr_m_X11_correlates s m args below meth c H locs 0 0 (MQ below (zg_Q G none S1) args s 0 0 (zg_A G)) (F0 m 78 ls []) := by
  unfold zj_X11_correlates_78 at h
  refine lv_iconst (v := 0) C.1 C.2.1 dX11_correlates_78 (by decide) ?_
  refine lv_istore (lv' := [(4, .int (0 : Int32)), (0, .ref (zg_q G 40)), (3, .int y3)]) C.1 C.2.1 dX11_correlates_79 hl (by decide) rfl (fun ls hl => ?_)
  obtain ⟨S8, hc, h⟩ := zc_b1_x h
  refine zk_X11_correlates_81 C y3 S8 (fun H locs ls w hl => ?_) _ _ _ hc _ _ _ w (lv_sub hl [1, 2, 0] rfl)
  clear hc
  refine lv_iconst (v := 0) C.1 C.2.1 dX11_correlates_151 (by decide) ?_
  refine lv_istore (lv' := [(4, .int (0 : Int32)), (0, .ref (zg_q G 40)), (3, .int y3)]) C.1 C.2.1 dX11_correlates_152 hl (by decide) rfl (fun ls hl => ?_)
  obtain ⟨S12, hc, h⟩ := zc_b1_x h
  refine zk_X11_correlates_154 C y3 S12 (fun H locs ls w hl => ?_) _ _ _ hc _ _ _ w (lv_sub hl [1, 2, 0] rfl)
  clear hc
  exact zr_retv C w hr dX11_correlates_191 (Option.some.inj h)
set_option maxHeartbeats 4000000 in
set_option maxRecDepth 100000 in
theorem zk_X11_correlates_40 {p : Program} {l : Launch} {e : Env} {s : State} {m : MethodId} {args : Array Value} {below : List Frame} {meth : Method} {c : Code} {G : zg_T} {Q : State → Prop} (C : zx_C p s m args meth c G RX11 cX11_correlates 8) (f3 : Int32) (oS : zs_T) (kont : ∀ (H : Heap) (locs : List Loc) (ls : Array Slot), zg_W G oS s H locs → lv_has ls 8 [(0, .ref (zg_q G 40)), (3, .int f3)] → W p l e zr_m_X11_correlates s m args below meth c H locs 0 0 Q (F0 m 78 ls [])) : ∀ (n : Nat) (S : zs_T) (x4 : Int32), zl_2 (zb_X11_correlates_40 f3) n S x4 = some oS → ∀ (H : Heap) (locs : List Loc) (ls : Array Slot), zg_W G S s H locs → lv_has ls 8 [(0, .ref (zg_q G 40)), (3, .int f3), (4, .int x4)] → W p l e zr_m_X11_correlates s m args below meth c H locs 0 0 Q (F0 m 40 ls []) := by
  intro n
  induction n with
  | zero => intro S x4 h; cases h
  | succ n ih =>
    intro S x4 h H locs ls w hl
    replace h : zb_X11_correlates_40 f3 (zl_2 (zb_X11_correlates_40 f3) n) S x4 = some oS := h
    generalize zl_2 (zb_X11_correlates_40 f3) n = rec at ih h
    unfold zb_X11_correlates_40 at h
    refine lv_iload C.1 C.2.1 dX11_correlates_40 (lv_at hl 2 rfl) ?_
    refine lv_sipush (v := 160) C.1 C.2.1 dX11_correlates_42 (by decide) ?_
    refine zr_ic_ge (tgt := 78) C dX11_correlates_45 (by decide) h (fun h => ?_) (fun h => ?_)
    · cases h
      exact kont _ _ _ w (lv_sub hl [0, 1] rfl)
    · refine lv_aload_n C.1 C.2.1 dX11_correlates_48 rfl (lv_at hl 0 rfl) ?_
      refine zr_get C w 40 zm_w_X11 (zw_g40 G _) rfl 18 (by decide) zm_f_X11_39 rfl dX11_correlates_49 ?_
      refine lv_iload C.1 C.2.1 dX11_correlates_52 (lv_at hl 2 rfl) ?_
      refine lv_aload_n C.1 C.2.1 dX11_correlates_54 rfl (lv_at hl 0 rfl) ?_
      refine zr_get C w 40 zm_w_X11 (zw_g40 G _) rfl 18 (by decide) zm_f_X11_39 rfl dX11_correlates_55 ?_
      refine lv_iload C.1 C.2.1 dX11_correlates_58 (lv_at hl 2 rfl) ?_
      refine zr_lald C w 49 (zw_g49 G _) dX11_correlates_60 h (fun h => ?_)
      refine lv_ldc2 (v := 16384) C.1 C.2.1 C.2.2.2.1 (C.2.2.2.2.1 _ zm_k_X11_80) dX11_correlates_61 ?_
      refine lv_iload_n C.1 C.2.1 dX11_correlates_64 rfl (lv_at hl 1 rfl) ?_
      refine lv_iconst (v := 1) C.1 C.2.1 dX11_correlates_65 (by decide) ?_
      refine lv_isub C.1 C.2.1 dX11_correlates_66 ?_
      refine lv_lshr C.1 C.2.1 dX11_correlates_67 rfl ?_
      refine zr_callSl C w (As := [.long (S.2 49 (Int32.toNatClampNeg x4)), .long ((16384 : Int64) >>> (Int32.toInt64 (f3 - (1 : Int32)) &&& 63))]) (zm_X11_rounded l G _ _ _ _ rfl) zm_c_X11_rounded zm_l_X11_112 zm_s_X11_rounded zm_0_X11 zm_d_X11_rounded ⟨rfl, rfl⟩ ⟨Nat.le_of_ble_eq_true rfl, Nat.le_of_ble_eq_true rfl⟩ hl.1 rfl rfl (Nat.le_of_ble_eq_true rfl) dX11_correlates_68 ⟨Nat.le_of_ble_eq_true rfl, Nat.le_of_ble_eq_true rfl⟩ (fun H locs w => ?_)
      refine zr_ltl h (fun v13 h => ?_)
      refine zr_last C w 49 (zw_g49 G _) (zw_s49 G _) dX11_correlates_71 h (fun S14 H locs w h => ?_)
      obtain ⟨v15, e_, h⟩ := zc_lt_x h
      refine lv_iinc (v := v15) (lv' := [(4, .int v15), (0, .ref (zg_q G 40)), (3, .int f3)]) C.1 C.2.1 dX11_correlates_72 hl (k := 2) rfl (by subst e_; rfl) (by decide) rfl (fun ls hl => ?_)
      clear e_
      refine lv_goto (tgt := 40) C.1 C.2.1 dX11_correlates_75 (by decide) ?_
      exact ih _ _ h _ _ _ w (lv_sub hl [1, 2, 0] rfl)
set_option maxHeartbeats 4000000 in
set_option maxRecDepth 100000 in
theorem zq_X11_correlates_32 {p : Program} {l : Launch} {e : Env} {s : State} {m : MethodId} {args : Array Value} {below : List Frame} {meth : Method} {c : Code} {G : zg_T} (hr : meth.sig.returnType = none) (C : zx_C p s m args meth c G RX11 cX11_correlates 8) (S1 : zs_T) (S : zs_T) (z0 : Int32) (h : zj_X11_correlates_32 S z0 = some S1) (H : Heap) (locs : List Loc) (ls : Array Slot) (w : zg_W G S s H locs) (hl : lv_has ls 8 [(0, .ref (zg_q G 40))]) : W p l e zr_m_X11_correlates s m args below meth c H locs 0 0 (MQ below (zg_Q G none S1) args s 0 0 (zg_A G)) (F0 m 32 ls [.int z0]) := by
  unfold zj_X11_correlates_32 at h
  refine lv_istore_n (lv' := [(3, .int z0), (0, .ref (zg_q G 40))]) C.1 C.2.1 dX11_correlates_32 rfl hl (by decide) rfl (fun ls hl => ?_)
  refine lv_iload_n C.1 C.2.1 dX11_correlates_33 rfl (lv_at hl 0 rfl) ?_
  refine zr_if_le (tgt := 78) C dX11_correlates_34 (by decide) h (fun h => ?_) (fun h => ?_)
  · exact zq_X11_correlates_78 hr C _ _ _ h _ _ _ w (lv_sub hl [1, 0] rfl)
  · refine lv_iconst (v := 0) C.1 C.2.1 dX11_correlates_37 (by decide) ?_
    refine lv_istore (lv' := [(4, .int (0 : Int32)), (3, .int z0), (0, .ref (zg_q G 40))]) C.1 C.2.1 dX11_correlates_38 hl (by decide) rfl (fun ls hl => ?_)
    obtain ⟨S16, hc, h⟩ := zc_b1_x h
    refine zk_X11_correlates_40 C z0 S16 (fun H locs ls w hl => ?_) _ _ _ hc _ _ _ w (lv_sub hl [2, 1, 0] rfl)
    clear hc
    exact zq_X11_correlates_78 hr C _ _ _ h _ _ _ w (lv_sub hl [0, 1] rfl)
set_option maxHeartbeats 4000000 in
set_option maxRecDepth 100000 in
theorem zm_X11_correlates (l : Launch) (G : zg_T) (S : zs_T) (S1 : zs_T) (h : zf_X11_correlates S = some S1) : Met l yX11_correlates (Cond.code yX11_correlates cX11_correlates 8 none :: zt_G) zr_m_X11_correlates (va_Pc [.ref (zg_q G 40)] (zg_P G S)) (zg_Q G none S1) 0 0 (zg_A G) := by
  refine zx_met (by decide +kernel) (Nat.le_of_ble_eq_true rfl) (lv := [(0, .ref (zg_q G 40))]) rfl ?_
  intro p e s m below meth c C hr w ls hl
  replace C : zx_C p s m _ meth c G RX11 cX11_correlates 8 := C
  unfold zf_X11_correlates at h
  refine lv_aload_n C.1 C.2.1 dX11_correlates_0 rfl (lv_at hl 0 rfl) ?_
  refine zr_get C w 40 zm_w_X11 (zw_g40 G _) rfl 18 (by decide) zm_f_X11_39 rfl dX11_correlates_1 ?_
  refine lv_iconst (v := 0) C.1 C.2.1 dX11_correlates_4 (by decide) ?_
  refine lv_sipush (v := 160) C.1 C.2.1 dX11_correlates_5 (by decide) ?_
  obtain ⟨v1, hc, h⟩ := zc_b1_x h
  refine zr_callSl C w (As := [.ref (zg_q G 49), .int (0 : Int32), .int (160 : Int32)]) (zm_X11_greatest_49 l G _ _ _ _ hc) zm_c_X11_greatest zm_l_X11_127 zm_s_X11_greatest zm_0_X11 zm_d_X11_greatest ⟨rfl, rfl⟩ ⟨Nat.le_of_ble_eq_true rfl, Nat.le_of_ble_eq_true rfl⟩ hl.1 rfl rfl (Nat.le_of_ble_eq_true rfl) dX11_correlates_8 ⟨Nat.le_of_ble_eq_true rfl, Nat.le_of_ble_eq_true rfl⟩ (fun H locs w => ?_)
  clear hc
  refine lv_lstore_n (lv' := [(1, .long v1), (0, .ref (zg_q G 40))]) C.1 C.2.1 dX11_correlates_11 rfl hl (by decide) rfl (fun ls hl => ?_)
  refine lv_lload_n C.1 C.2.1 dX11_correlates_12 rfl (lv_at hl 0 rfl) ?_
  refine lv_lconst (v := 0) C.1 C.2.1 dX11_correlates_13 (by decide) ?_
  refine zr_lc_ne (tgt := 22) C dX11_correlates_14 dX11_correlates_15 (by decide) h (fun h => ?_) (fun h => ?_)
  · refine lv_iconst (v := 4) C.1 C.2.1 dX11_correlates_22 (by decide) ?_
    refine lv_lload_n C.1 C.2.1 dX11_correlates_23 rfl (lv_at hl 0 rfl) ?_
    refine lv_ldc2 (v := 65536) C.1 C.2.1 C.2.2.2.1 (C.2.2.2.2.1 _ zm_k_X11_97) dX11_correlates_24 ?_
    refine lv_lmul C.1 C.2.1 dX11_correlates_27 ?_
    obtain ⟨v2, hc, h⟩ := zc_b1_x h
    refine zr_callSi C w (As := [.long (v1 * (65536 : Int64))]) (zm_X11_norm l G _ _ _ hc) zm_c_X11_norm zm_l_X11_131 zm_s_X11_norm zm_0_X11 zm_d_X11_norm ⟨rfl, rfl⟩ ⟨Nat.le_of_ble_eq_true rfl, Nat.le_of_ble_eq_true rfl⟩ hl.1 rfl rfl (Nat.le_of_ble_eq_true rfl) dX11_correlates_28 ⟨Nat.le_of_ble_eq_true rfl, Nat.le_of_ble_eq_true rfl⟩ (fun H locs w => ?_)
    clear hc
    refine lv_isub C.1 C.2.1 dX11_correlates_31 ?_
    exact zq_X11_correlates_32 hr C _ _ _ h _ _ _ w (lv_sub hl [1] rfl)
  · refine lv_iconst (v := 0) C.1 C.2.1 dX11_correlates_18 (by decide) ?_
    refine lv_goto (tgt := 32) C.1 C.2.1 dX11_correlates_19 (by decide) ?_
    exact zq_X11_correlates_32 hr C _ _ _ h _ _ _ w (lv_sub hl [1] rfl)
set_option maxHeartbeats 4000000 in
set_option maxRecDepth 100000 in
theorem zk_X11_reflects_2 {p : Program} {l : Launch} {e : Env} {s : State} {m : MethodId} {args : Array Value} {below : List Frame} {meth : Method} {c : Code} {G : zg_T} {Q : State → Prop} (C : zx_C p s m args meth c G RX11 cX11_reflects 10) (oS : zs_T) (kont : ∀ (H : Heap) (locs : List Loc) (ls : Array Slot), zg_W G oS s H locs → lv_has ls 10 [(0, .ref (zg_q G 40))] → W p l e zr_m_X11_reflects s m args below meth c H locs 0 0 Q (F0 m 21 ls [])) : ∀ (n : Nat) (S : zs_T) (x1 : Int32), zl_2 (zb_X11_reflects_2) n S x1 = some oS → ∀ (H : Heap) (locs : List Loc) (ls : Array Slot), zg_W G S s H locs → lv_has ls 10 [(0, .ref (zg_q G 40)), (1, .int x1)] → W p l e zr_m_X11_reflects s m args below meth c H locs 0 0 Q (F0 m 2 ls []) := by
  intro n
  induction n with
  | zero => intro S x1 h; cases h
  | succ n ih =>
    intro S x1 h H locs ls w hl
    replace h : zb_X11_reflects_2 (zl_2 (zb_X11_reflects_2) n) S x1 = some oS := h
    generalize zl_2 (zb_X11_reflects_2) n = rec at ih h
    unfold zb_X11_reflects_2 at h
    refine lv_iload_n C.1 C.2.1 dX11_reflects_2 rfl (lv_at hl 1 rfl) ?_
    refine lv_bipush (v := 9) C.1 C.2.1 dX11_reflects_3 (by decide) ?_
    refine zr_ic_ge (tgt := 21) C dX11_reflects_5 (by decide) h (fun h => ?_) (fun h => ?_)
    · cases h
      exact kont _ _ _ w (lv_sub hl [0] rfl)
    · refine lv_aload_n C.1 C.2.1 dX11_reflects_8 rfl (lv_at hl 0 rfl) ?_
      refine zr_get C w 40 zm_w_X11 (zw_g40 G _) rfl 25 (by decide) zm_f_X11_60 rfl dX11_reflects_9 ?_
      refine lv_iload_n C.1 C.2.1 dX11_reflects_12 rfl (lv_at hl 1 rfl) ?_
      refine lv_lconst (v := 0) C.1 C.2.1 dX11_reflects_13 (by decide) ?_
      refine zr_last C w 56 (zw_g56 G _) (zw_s56 G _) dX11_reflects_14 h (fun S1 H locs w h => ?_)
      obtain ⟨v2, e_, h⟩ := zc_lt_x h
      refine lv_iinc (v := v2) (lv' := [(1, .int v2), (0, .ref (zg_q G 40))]) C.1 C.2.1 dX11_reflects_15 hl (k := 1) rfl (by subst e_; rfl) (by decide) rfl (fun ls hl => ?_)
      clear e_
      refine lv_goto (tgt := 2) C.1 C.2.1 dX11_reflects_18 (by decide) ?_
      exact ih _ _ h _ _ _ w (lv_sub hl [1, 0] rfl)
set_option maxHeartbeats 4000000 in
set_option maxRecDepth 100000 in
theorem zk_X11_reflects_45 {p : Program} {l : Launch} {e : Env} {s : State} {m : MethodId} {args : Array Value} {below : List Frame} {meth : Method} {c : Code} {G : zg_T} {Q : State → Prop} (C : zx_C p s m args meth c G RX11 cX11_reflects 10) (f1 : Int32) (oS : zs_T) (kont : ∀ (H : Heap) (locs : List Loc) (ls : Array Slot), zg_W G oS s H locs → lv_has ls 10 [(0, .ref (zg_q G 40))] → W p l e zr_m_X11_reflects s m args below meth c H locs 0 0 Q (F0 m 86 ls [])) : ∀ (n : Nat) (S : zs_T) (x2 : Int32), zl_2 (zb_X11_reflects_45 f1) n S x2 = some oS → ∀ (H : Heap) (locs : List Loc) (ls : Array Slot), zg_W G S s H locs → lv_has ls 10 [(0, .ref (zg_q G 40)), (1, .int f1), (2, .int x2)] → W p l e zr_m_X11_reflects s m args below meth c H locs 0 0 Q (F0 m 45 ls []) := by
  intro n
  induction n with
  | zero => intro S x2 h; cases h
  | succ n ih =>
    intro S x2 h H locs ls w hl
    replace h : zb_X11_reflects_45 f1 (zl_2 (zb_X11_reflects_45 f1) n) S x2 = some oS := h
    generalize zl_2 (zb_X11_reflects_45 f1) n = rec at ih h
    unfold zb_X11_reflects_45 at h
    refine lv_iload_n C.1 C.2.1 dX11_reflects_45 rfl (lv_at hl 2 rfl) ?_
    refine lv_bipush (v := 9) C.1 C.2.1 dX11_reflects_46 (by decide) ?_
    refine zr_ic_ge (tgt := 86) C dX11_reflects_48 (by decide) h (fun h => ?_) (fun h => ?_)
    · cases h
      exact kont _ _ _ w (lv_sub hl [0] rfl)
    · refine lv_aload_n C.1 C.2.1 dX11_reflects_51 rfl (lv_at hl 0 rfl) ?_
      refine zr_get C w 40 zm_w_X11 (zw_g40 G _) rfl 23 (by decide) zm_f_X11_54 rfl dX11_reflects_52 ?_
      refine lv_iload_n C.1 C.2.1 dX11_reflects_55 rfl (lv_at hl 2 rfl) ?_
      refine lv_aload_n C.1 C.2.1 dX11_reflects_56 rfl (lv_at hl 0 rfl) ?_
      refine zr_get C w 40 zm_w_X11 (zw_g40 G _) rfl 22 (by decide) zm_f_X11_51 rfl dX11_reflects_57 ?_
      refine lv_iload_n C.1 C.2.1 dX11_reflects_60 rfl (lv_at hl 2 rfl) ?_
      refine zr_lald C w 53 (zw_g53 G _) dX11_reflects_61 h (fun h => ?_)
      refine lv_iload_n C.1 C.2.1 dX11_reflects_62 rfl (lv_at hl 1 rfl) ?_
      refine lv_lshl C.1 C.2.1 dX11_reflects_63 rfl ?_
      refine lv_bipush (v := 16) C.1 C.2.1 dX11_reflects_64 (by decide) ?_
      refine lv_lshr C.1 C.2.1 dX11_reflects_66 rfl ?_
      refine zr_last C w 54 (zw_g54 G _) (zw_s54 G _) dX11_reflects_67 h (fun S5 H locs w h => ?_)
      refine lv_aload_n C.1 C.2.1 dX11_reflects_68 rfl (lv_at hl 0 rfl) ?_
      refine zr_get C w 40 zm_w_X11 (zw_g40 G _) rfl 24 (by decide) zm_f_X11_57 rfl dX11_reflects_69 ?_
      refine lv_iload_n C.1 C.2.1 dX11_reflects_72 rfl (lv_at hl 2 rfl) ?_
      refine lv_aload_n C.1 C.2.1 dX11_reflects_73 rfl (lv_at hl 0 rfl) ?_
      refine zr_get C w 40 zm_w_X11 (zw_g40 G _) rfl 23 (by decide) zm_f_X11_54 rfl dX11_reflects_74 ?_
      refine lv_iload_n C.1 C.2.1 dX11_reflects_77 rfl (lv_at hl 2 rfl) ?_
      refine zr_lald C w 54 (zw_g54 G _) dX11_reflects_78 h (fun h => ?_)
      refine zr_last C w 55 (zw_g55 G _) (zw_s55 G _) dX11_reflects_79 h (fun S6 H locs w h => ?_)
      obtain ⟨v7, e_, h⟩ := zc_lt_x h
      refine lv_iinc (v := v7) (lv' := [(2, .int v7), (0, .ref (zg_q G 40)), (1, .int f1)]) C.1 C.2.1 dX11_reflects_80 hl (k := 2) rfl (by subst e_; rfl) (by decide) rfl (fun ls hl => ?_)
      clear e_
      refine lv_goto (tgt := 45) C.1 C.2.1 dX11_reflects_83 (by decide) ?_
      exact ih _ _ h _ _ _ w (lv_sub hl [1, 2, 0] rfl)
set_option maxHeartbeats 4000000 in
set_option maxRecDepth 100000 in
theorem zk_X11_reflects_218 {p : Program} {l : Launch} {e : Env} {s : State} {m : MethodId} {args : Array Value} {below : List Frame} {meth : Method} {c : Code} {G : zg_T} {Q : State → Prop} (C : zx_C p s m args meth c G RX11 cX11_reflects 10) (f2 : Int32) (oS : zs_T) (kont : ∀ (H : Heap) (locs : List Loc) (ls : Array Slot), zg_W G oS s H locs → lv_has ls 10 [(0, .ref (zg_q G 40)), (2, .int f2)] → W p l e zr_m_X11_reflects s m args below meth c H locs 0 0 Q (F0 m 309 ls [])) : ∀ (n : Nat) (S : zs_T) (x7 : Int32), zl_2 (zb_X11_reflects_218 f2) n S x7 = some oS → ∀ (H : Heap) (locs : List Loc) (ls : Array Slot), zg_W G S s H locs → lv_has ls 10 [(0, .ref (zg_q G 40)), (2, .int f2), (7, .int x7)] → W p l e zr_m_X11_reflects s m args below meth c H locs 0 0 Q (F0 m 218 ls []) := by
  intro n
  induction n with
  | zero => intro S x7 h; cases h
  | succ n ih =>
    intro S x7 h H locs ls w hl
    replace h : zb_X11_reflects_218 f2 (zl_2 (zb_X11_reflects_218 f2) n) S x7 = some oS := h
    generalize zl_2 (zb_X11_reflects_218 f2) n = rec at ih h
    unfold zb_X11_reflects_218 at h
    refine lv_iload C.1 C.2.1 dX11_reflects_218 (lv_at hl 2 rfl) ?_
    refine lv_bipush (v := 8) C.1 C.2.1 dX11_reflects_220 (by decide) ?_
    refine lv_iload_n C.1 C.2.1 dX11_reflects_222 rfl (lv_at hl 1 rfl) ?_
    refine lv_isub C.1 C.2.1 dX11_reflects_223 ?_
    refine zr_ic_gt (tgt := 309) C dX11_reflects_224 (by decide) h (fun h => ?_) (fun h => ?_)
    · cases h
      exact kont _ _ _ w (lv_sub hl [0, 1] rfl)
    · refine lv_aload_n C.1 C.2.1 dX11_reflects_227 rfl (lv_at hl 0 rfl) ?_
      refine zr_get C w 40 zm_w_X11 (zw_g40 G _) rfl 23 (by decide) zm_f_X11_54 rfl dX11_reflects_228 ?_
      refine lv_iload C.1 C.2.1 dX11_reflects_231 (lv_at hl 2 rfl) ?_
      refine lv_iconst (v := 1) C.1 C.2.1 dX11_reflects_233 (by decide) ?_
      refine lv_iadd C.1 C.2.1 dX11_reflects_234 ?_
      refine zr_lald C w 54 (zw_g54 G _) dX11_reflects_235 h (fun h => ?_)
      refine lv_aload_n C.1 C.2.1 dX11_reflects_236 rfl (lv_at hl 0 rfl) ?_
      refine zr_get C w 40 zm_w_X11 (zw_g40 G _) rfl 24 (by decide) zm_f_X11_57 rfl dX11_reflects_237 ?_
      refine lv_iload C.1 C.2.1 dX11_reflects_240 (lv_at hl 2 rfl) ?_
      refine zr_lald C w 55 (zw_g55 G _) dX11_reflects_242 h (fun h => ?_)
      refine lv_aload_n C.1 C.2.1 dX11_reflects_243 rfl (lv_at hl 0 rfl) ?_
      refine zr_get C w 40 zm_w_X11 (zw_g40 G _) rfl 25 (by decide) zm_f_X11_60 rfl dX11_reflects_244 ?_
      refine lv_iload_n C.1 C.2.1 dX11_reflects_247 rfl (lv_at hl 1 rfl) ?_
      refine zr_lald C w 56 (zw_g56 G _) dX11_reflects_248 h (fun h => ?_)
      refine zr_callSl C w (As := [.long (S.2 55 (Int32.toNatClampNeg x7)), .long (S.2 56 (Int32.toNatClampNeg f2))]) (zm_X11_rounded l G _ _ _ _ rfl) zm_c_X11_rounded zm_l_X11_112 zm_s_X11_rounded zm_0_X11 zm_d_X11_rounded ⟨rfl, rfl⟩ ⟨Nat.le_of_ble_eq_true rfl, Nat.le_of_ble_eq_true rfl⟩ hl.1 rfl rfl (Nat.le_of_ble_eq_true rfl) dX11_reflects_249 ⟨Nat.le_of_ble_eq_true rfl, Nat.le_of_ble_eq_true rfl⟩ (fun H locs w => ?_)
      refine zr_ltl h (fun v14 h => ?_)
      refine lv_ladd C.1 C.2.1 dX11_reflects_252 ?_
      refine zr_callSl C w (As := [.long ((S.2 54 (Int32.toNatClampNeg (x7 + (1 : Int32)))) + v14)]) (zm_X11_cut l G _ _ _ rfl) zm_c_X11_cut zm_l_X11_82 zm_s_X11_cut zm_0_X11 zm_d_X11_cut ⟨rfl, rfl⟩ ⟨Nat.le_of_ble_eq_true rfl, Nat.le_of_ble_eq_true rfl⟩ hl.1 rfl rfl (Nat.le_of_ble_eq_true rfl) dX11_reflects_253 ⟨Nat.le_of_ble_eq_true rfl, Nat.le_of_ble_eq_true rfl⟩ (fun H locs w => ?_)
      refine zr_ltl h (fun v15 h => ?_)
      refine lv_lstore (lv' := [(8, .long v15), (0, .ref (zg_q G 40)), (2, .int f2), (7, .int x7)]) C.1 C.2.1 dX11_reflects_256 hl (by decide) rfl (fun ls hl => ?_)
      refine lv_aload_n C.1 C.2.1 dX11_reflects_258 rfl (lv_at hl 1 rfl) ?_
      refine zr_get C w 40 zm_w_X11 (zw_g40 G _) rfl 24 (by decide) zm_f_X11_57 rfl dX11_reflects_259 ?_
      refine lv_iload C.1 C.2.1 dX11_reflects_262 (lv_at hl 3 rfl) ?_
      refine lv_aload_n C.1 C.2.1 dX11_reflects_264 rfl (lv_at hl 1 rfl) ?_
      refine zr_get C w 40 zm_w_X11 (zw_g40 G _) rfl 24 (by decide) zm_f_X11_57 rfl dX11_reflects_265 ?_
      refine lv_iload C.1 C.2.1 dX11_reflects_268 (lv_at hl 3 rfl) ?_
      refine zr_lald C w 55 (zw_g55 G _) dX11_reflects_270 h (fun h => ?_)
      refine lv_aload_n C.1 C.2.1 dX11_reflects_271 rfl (lv_at hl 1 rfl) ?_
      refine zr_get C w 40 zm_w_X11 (zw_g40 G _) rfl 23 (by decide) zm_f_X11_54 rfl dX11_reflects_272 ?_
      refine lv_iload C.1 C.2.1 dX11_reflects_275 (lv_at hl 3 rfl) ?_
      refine lv_iconst (v := 1) C.1 C.2.1 dX11_reflects_277 (by decide) ?_
      refine lv_iadd C.1 C.2.1 dX11_reflects_278 ?_
      refine zr_lald C w 54 (zw_g54 G _) dX11_reflects_279 h (fun h => ?_)
      refine lv_aload_n C.1 C.2.1 dX11_reflects_280 rfl (lv_at hl 1 rfl) ?_
      refine zr_get C w 40 zm_w_X11 (zw_g40 G _) rfl 25 (by decide) zm_f_X11_60 rfl dX11_reflects_281 ?_
      refine lv_iload_n C.1 C.2.1 dX11_reflects_284 rfl (lv_at hl 2 rfl) ?_
      refine zr_lald C w 56 (zw_g56 G _) dX11_reflects_285 h (fun h => ?_)
      refine zr_callSl C w (As := [.long (S.2 54 (Int32.toNatClampNeg (x7 + (1 : Int32)))), .long (S.2 56 (Int32.toNatClampNeg f2))]) (zm_X11_rounded l G _ _ _ _ rfl) zm_c_X11_rounded zm_l_X11_112 zm_s_X11_rounded zm_0_X11 zm_d_X11_rounded ⟨rfl, rfl⟩ ⟨Nat.le_of_ble_eq_true rfl, Nat.le_of_ble_eq_true rfl⟩ hl.1 rfl rfl (Nat.le_of_ble_eq_true rfl) dX11_reflects_286 ⟨Nat.le_of_ble_eq_true rfl, Nat.le_of_ble_eq_true rfl⟩ (fun H locs w => ?_)
      refine zr_ltl h (fun v16 h => ?_)
      refine lv_ladd C.1 C.2.1 dX11_reflects_289 ?_
      refine zr_callSl C w (As := [.long ((S.2 55 (Int32.toNatClampNeg x7)) + v16)]) (zm_X11_cut l G _ _ _ rfl) zm_c_X11_cut zm_l_X11_82 zm_s_X11_cut zm_0_X11 zm_d_X11_cut ⟨rfl, rfl⟩ ⟨Nat.le_of_ble_eq_true rfl, Nat.le_of_ble_eq_true rfl⟩ hl.1 rfl rfl (Nat.le_of_ble_eq_true rfl) dX11_reflects_290 ⟨Nat.le_of_ble_eq_true rfl, Nat.le_of_ble_eq_true rfl⟩ (fun H locs w => ?_)
      refine zr_ltl h (fun v17 h => ?_)
      refine zr_last C w 55 (zw_g55 G _) (zw_s55 G _) dX11_reflects_293 h (fun S18 H locs w h => ?_)
      refine lv_aload_n C.1 C.2.1 dX11_reflects_294 rfl (lv_at hl 1 rfl) ?_
      refine zr_get C w 40 zm_w_X11 (zw_g40 G _) rfl 23 (by decide) zm_f_X11_54 rfl dX11_reflects_295 ?_
      refine lv_iload C.1 C.2.1 dX11_reflects_298 (lv_at hl 3 rfl) ?_
      refine lv_lload C.1 C.2.1 dX11_reflects_300 (lv_at hl 0 rfl) ?_
      refine zr_last C w 54 (zw_g54 G _) (zw_s54 G _) dX11_reflects_302 h (fun S19 H locs w h => ?_)
      obtain ⟨v20, e_, h⟩ := zc_lt_x h
      refine lv_iinc (v := v20) (lv' := [(7, .int v20), (8, .long v15), (0, .ref (zg_q G 40)), (2, .int f2)]) C.1 C.2.1 dX11_reflects_303 hl (k := 3) rfl (by subst e_; rfl) (by decide) rfl (fun ls hl => ?_)
      clear e_
      refine lv_goto (tgt := 218) C.1 C.2.1 dX11_reflects_306 (by decide) ?_
      exact ih _ _ h _ _ _ w (lv_sub hl [2, 3, 0] rfl)
set_option maxHeartbeats 4000000 in
set_option maxRecDepth 100000 in
theorem zq_X11_reflects_183 {p : Program} {l : Launch} {e : Env} {s : State} {m : MethodId} {args : Array Value} {below : List Frame} {meth : Method} {c : Code} {G : zg_T} (hr : meth.sig.returnType = none) (S1 : zs_T) (C : zx_C p s m args meth c G RX11 cX11_reflects 10) (rec : zs_T → Int32 → Option ((zs_T) ⊕ zs_T)) (S : zs_T) (y2 : Int32) (z0 : Int64) (z1 : Int32) (o : ((zs_T) ⊕ zs_T)) (hor : ∀ r_, o = Sum.inr r_ → r_ = S1) (kont : ∀ (oS : zs_T), o = Sum.inl oS → ∀ (H : Heap) (locs : List Loc) (ls : Array Slot), zg_W G oS s H locs → lv_has ls 10 [] → W p l e zr_m_X11_reflects s m args below meth c H locs 0 0 (MQ below (zg_Q G none S1) args s 0 0 (zg_A G)) (F0 m 315 ls [])) (ih : ∀ (S : zs_T) (x2 : Int32), rec S x2 = some o → ∀ (H : Heap) (locs : List Loc) (ls : Array Slot), zg_W G S s H locs → lv_has ls 10 [(0, .ref (zg_q G 40)), (2, .int x2)] → W p l e zr_m_X11_reflects s m args below meth c H locs 0 0 (MQ below (zg_Q G none S1) args s 0 0 (zg_A G)) (F0 m 88 ls [])) (h : zj_X11_reflects_183 rec S y2 z0 z1 = some o) (H : Heap) (locs : List Loc) (ls : Array Slot) (w : zg_W G S s H locs) (hl : lv_has ls 10 [(0, .ref (zg_q G 40)), (2, .int y2)]) : W p l e zr_m_X11_reflects s m args below meth c H locs 0 0 (MQ below (zg_Q G none S1) args s 0 0 (zg_A G)) (F0 m 183 ls [.long z0, .int z1, .ref (zg_q G 56)]) := by
  unfold zj_X11_reflects_183 at h
  refine zr_last C w 56 (zw_g56 G _) (zw_s56 G _) dX11_reflects_183 h (fun S10 H locs w h => ?_)
  refine lv_aload_n C.1 C.2.1 dX11_reflects_184 rfl (lv_at hl 0 rfl) ?_
  refine zr_get C w 40 zm_w_X11 (zw_g40 G _) rfl 23 (by decide) zm_f_X11_54 rfl dX11_reflects_185 ?_
  refine lv_iconst (v := 0) C.1 C.2.1 dX11_reflects_188 (by decide) ?_
  refine lv_aload_n C.1 C.2.1 dX11_reflects_189 rfl (lv_at hl 0 rfl) ?_
  refine zr_get C w 40 zm_w_X11 (zw_g40 G _) rfl 23 (by decide) zm_f_X11_54 rfl dX11_reflects_190 ?_
  refine lv_iconst (v := 0) C.1 C.2.1 dX11_reflects_193 (by decide) ?_
  refine zr_lald C w 54 (zw_g54 G _) dX11_reflects_194 h (fun h => ?_)
  refine lv_aload_n C.1 C.2.1 dX11_reflects_195 rfl (lv_at hl 0 rfl) ?_
  refine zr_get C w 40 zm_w_X11 (zw_g40 G _) rfl 23 (by decide) zm_f_X11_54 rfl dX11_reflects_196 ?_
  refine lv_iconst (v := 1) C.1 C.2.1 dX11_reflects_199 (by decide) ?_
  refine zr_lald C w 54 (zw_g54 G _) dX11_reflects_200 h (fun h => ?_)
  refine lv_aload_n C.1 C.2.1 dX11_reflects_201 rfl (lv_at hl 0 rfl) ?_
  refine zr_get C w 40 zm_w_X11 (zw_g40 G _) rfl 25 (by decide) zm_f_X11_60 rfl dX11_reflects_202 ?_
  refine lv_iload_n C.1 C.2.1 dX11_reflects_205 rfl (lv_at hl 1 rfl) ?_
  refine zr_lald C w 56 (zw_g56 G _) dX11_reflects_206 h (fun h => ?_)
  refine zr_callSl C w (As := [.long (S10.2 54 (Int32.toNatClampNeg (1 : Int32))), .long (S10.2 56 (Int32.toNatClampNeg y2))]) (zm_X11_rounded l G _ _ _ _ rfl) zm_c_X11_rounded zm_l_X11_112 zm_s_X11_rounded zm_0_X11 zm_d_X11_rounded ⟨rfl, rfl⟩ ⟨Nat.le_of_ble_eq_true rfl, Nat.le_of_ble_eq_true rfl⟩ hl.1 rfl rfl (Nat.le_of_ble_eq_true rfl) dX11_reflects_207 ⟨Nat.le_of_ble_eq_true rfl, Nat.le_of_ble_eq_true rfl⟩ (fun H locs w => ?_)
  refine zr_ltl h (fun v11 h => ?_)
  refine lv_ladd C.1 C.2.1 dX11_reflects_210 ?_
  refine zr_callSl C w (As := [.long ((S10.2 54 (Int32.toNatClampNeg (0 : Int32))) + v11)]) (zm_X11_cut l G _ _ _ rfl) zm_c_X11_cut zm_l_X11_82 zm_s_X11_cut zm_0_X11 zm_d_X11_cut ⟨rfl, rfl⟩ ⟨Nat.le_of_ble_eq_true rfl, Nat.le_of_ble_eq_true rfl⟩ hl.1 rfl rfl (Nat.le_of_ble_eq_true rfl) dX11_reflects_211 ⟨Nat.le_of_ble_eq_true rfl, Nat.le_of_ble_eq_true rfl⟩ (fun H locs w => ?_)
  refine zr_ltl h (fun v12 h => ?_)
  refine zr_last C w 54 (zw_g54 G _) (zw_s54 G _) dX11_reflects_214 h (fun S13 H locs w h => ?_)
  refine lv_iconst (v := 1) C.1 C.2.1 dX11_reflects_215 (by decide) ?_
  refine lv_istore (lv' := [(7, .int (1 : Int32)), (0, .ref (zg_q G 40)), (2, .int y2)]) C.1 C.2.1 dX11_reflects_216 hl (by decide) rfl (fun ls hl => ?_)
  obtain ⟨S21, hc, h⟩ := zc_b1_x h
  refine zk_X11_reflects_218 C y2 S21 (fun H locs ls w hl => ?_) _ _ _ hc _ _ _ w (lv_sub hl [1, 2, 0] rfl)
  clear hc
  obtain ⟨v22, e_, h⟩ := zc_lt_x h
  refine lv_iinc (v := v22) (lv' := [(2, .int v22), (0, .ref (zg_q G 40))]) C.1 C.2.1 dX11_reflects_309 hl (k := 1) rfl (by subst e_; rfl) (by decide) rfl (fun ls hl => ?_)
  clear e_
  refine lv_goto (tgt := 88) C.1 C.2.1 dX11_reflects_312 (by decide) ?_
  exact ih _ _ h _ _ _ w (lv_sub hl [1, 0] rfl)
set_option maxHeartbeats 4000000 in
set_option maxRecDepth 100000 in
theorem zq_X11_reflects_157 {p : Program} {l : Launch} {e : Env} {s : State} {m : MethodId} {args : Array Value} {below : List Frame} {meth : Method} {c : Code} {G : zg_T} (hr : meth.sig.returnType = none) (S1 : zs_T) (C : zx_C p s m args meth c G RX11 cX11_reflects 10) (rec : zs_T → Int32 → Option ((zs_T) ⊕ zs_T)) (S : zs_T) (y2 : Int32) (z0 : Int64) (o : ((zs_T) ⊕ zs_T)) (hor : ∀ r_, o = Sum.inr r_ → r_ = S1) (kont : ∀ (oS : zs_T), o = Sum.inl oS → ∀ (H : Heap) (locs : List Loc) (ls : Array Slot), zg_W G oS s H locs → lv_has ls 10 [] → W p l e zr_m_X11_reflects s m args below meth c H locs 0 0 (MQ below (zg_Q G none S1) args s 0 0 (zg_A G)) (F0 m 315 ls [])) (ih : ∀ (S : zs_T) (x2 : Int32), rec S x2 = some o → ∀ (H : Heap) (locs : List Loc) (ls : Array Slot), zg_W G S s H locs → lv_has ls 10 [(0, .ref (zg_q G 40)), (2, .int x2)] → W p l e zr_m_X11_reflects s m args below meth c H locs 0 0 (MQ below (zg_Q G none S1) args s 0 0 (zg_A G)) (F0 m 88 ls [])) (h : zj_X11_reflects_157 rec S y2 z0 = some o) (H : Heap) (locs : List Loc) (ls : Array Slot) (w : zg_W G S s H locs) (hl : lv_has ls 10 [(0, .ref (zg_q G 40)), (2, .int y2)]) : W p l e zr_m_X11_reflects s m args below meth c H locs 0 0 (MQ below (zg_Q G none S1) args s 0 0 (zg_A G)) (F0 m 157 ls [.long z0]) := by
  unfold zj_X11_reflects_157 at h
  refine lv_lstore (lv' := [(5, .long z0), (0, .ref (zg_q G 40)), (2, .int y2)]) C.1 C.2.1 dX11_reflects_157 hl (by decide) rfl (fun ls hl => ?_)
  refine lv_aload_n C.1 C.2.1 dX11_reflects_159 rfl (lv_at hl 1 rfl) ?_
  refine zr_get C w 40 zm_w_X11 (zw_g40 G _) rfl 25 (by decide) zm_f_X11_60 rfl dX11_reflects_160 ?_
  refine lv_iload_n C.1 C.2.1 dX11_reflects_163 rfl (lv_at hl 2 rfl) ?_
  refine lv_aload_n C.1 C.2.1 dX11_reflects_164 rfl (lv_at hl 1 rfl) ?_
  refine zr_get C w 40 zm_w_X11 (zw_g40 G _) rfl 23 (by decide) zm_f_X11_54 rfl dX11_reflects_165 ?_
  refine lv_iconst (v := 1) C.1 C.2.1 dX11_reflects_168 (by decide) ?_
  refine zr_lald C w 54 (zw_g54 G _) dX11_reflects_169 h (fun h => ?_)
  refine lv_lconst (v := 0) C.1 C.2.1 dX11_reflects_170 (by decide) ?_
  refine zr_lc_le (tgt := 181) C dX11_reflects_171 dX11_reflects_172 (by decide) h (fun h => ?_) (fun h => ?_)
  · refine lv_lload C.1 C.2.1 dX11_reflects_181 (lv_at hl 0 rfl) ?_
    exact zq_X11_reflects_183 hr _ C rec _ _ _ _ o hor kont ih h _ _ _ w (lv_sub hl [1, 2] rfl)
  · refine lv_lload C.1 C.2.1 dX11_reflects_175 (lv_at hl 0 rfl) ?_
    refine lv_lneg C.1 C.2.1 dX11_reflects_177 ?_
    refine lv_goto (tgt := 183) C.1 C.2.1 dX11_reflects_178 (by decide) ?_
    exact zq_X11_reflects_183 hr _ C rec _ _ _ _ o hor kont ih h _ _ _ w (lv_sub hl [1, 2] rfl)
set_option maxHeartbeats 4000000 in
set_option maxRecDepth 100000 in
theorem zq_X11_reflects_138 {p : Program} {l : Launch} {e : Env} {s : State} {m : MethodId} {args : Array Value} {below : List Frame} {meth : Method} {c : Code} {G : zg_T} (hr : meth.sig.returnType = none) (S1 : zs_T) (C : zx_C p s m args meth c G RX11 cX11_reflects 10) (rec : zs_T → Int32 → Option ((zs_T) ⊕ zs_T)) (S : zs_T) (y2 : Int32) (z0 : Int64) (o : ((zs_T) ⊕ zs_T)) (hor : ∀ r_, o = Sum.inr r_ → r_ = S1) (kont : ∀ (oS : zs_T), o = Sum.inl oS → ∀ (H : Heap) (locs : List Loc) (ls : Array Slot), zg_W G oS s H locs → lv_has ls 10 [] → W p l e zr_m_X11_reflects s m args below meth c H locs 0 0 (MQ below (zg_Q G none S1) args s 0 0 (zg_A G)) (F0 m 315 ls [])) (ih : ∀ (S : zs_T) (x2 : Int32), rec S x2 = some o → ∀ (H : Heap) (locs : List Loc) (ls : Array Slot), zg_W G S s H locs → lv_has ls 10 [(0, .ref (zg_q G 40)), (2, .int x2)] → W p l e zr_m_X11_reflects s m args below meth c H locs 0 0 (MQ below (zg_Q G none S1) args s 0 0 (zg_A G)) (F0 m 88 ls [])) (h : zj_X11_reflects_138 rec S y2 z0 = some o) (H : Heap) (locs : List Loc) (ls : Array Slot) (w : zg_W G S s H locs) (hl : lv_has ls 10 [(0, .ref (zg_q G 40)), (2, .int y2)]) : W p l e zr_m_X11_reflects s m args below meth c H locs 0 0 (MQ below (zg_Q G none S1) args s 0 0 (zg_A G)) (F0 m 138 ls [.long z0]) := by
  unfold zj_X11_reflects_138 at h
  refine lv_lstore (lv' := [(5, .long z0), (0, .ref (zg_q G 40)), (2, .int y2)]) C.1 C.2.1 dX11_reflects_138 hl (by decide) rfl (fun ls hl => ?_)
  refine lv_lload C.1 C.2.1 dX11_reflects_140 (lv_at hl 0 rfl) ?_
  refine lv_ldc2 (v := 32767) C.1 C.2.1 C.2.2.2.1 (C.2.2.2.2.1 _ zm_k_X11_72) dX11_reflects_142 ?_
  refine zr_lc_le (tgt := 155) C dX11_reflects_145 dX11_reflects_146 (by decide) h (fun h => ?_) (fun h => ?_)
  · refine lv_lload C.1 C.2.1 dX11_reflects_155 (lv_at hl 0 rfl) ?_
    exact zq_X11_reflects_157 hr _ C rec _ _ _ o hor kont ih h _ _ _ w (lv_sub hl [1, 2] rfl)
  · refine lv_ldc2 (v := 32767) C.1 C.2.1 C.2.2.2.1 (C.2.2.2.2.1 _ zm_k_X11_72) dX11_reflects_149 ?_
    refine lv_goto (tgt := 157) C.1 C.2.1 dX11_reflects_152 (by decide) ?_
    exact zq_X11_reflects_157 hr _ C rec _ _ _ o hor kont ih h _ _ _ w (lv_sub hl [1, 2] rfl)
set_option maxHeartbeats 4000000 in
set_option maxRecDepth 100000 in
theorem zk_X11_reflects_88 {p : Program} {l : Launch} {e : Env} {s : State} {m : MethodId} {args : Array Value} {below : List Frame} {meth : Method} {c : Code} {G : zg_T} (hr : meth.sig.returnType = none) (S1 : zs_T) (C : zx_C p s m args meth c G RX11 cX11_reflects 10) (o : ((zs_T) ⊕ zs_T)) (hor : ∀ r_, o = Sum.inr r_ → r_ = S1) (kont : ∀ (oS : zs_T), o = Sum.inl (oS) → ∀ (H : Heap) (locs : List Loc) (ls : Array Slot), zg_W G oS s H locs → lv_has ls 10 [] → W p l e zr_m_X11_reflects s m args below meth c H locs 0 0 (MQ below (zg_Q G none S1) args s 0 0 (zg_A G)) (F0 m 315 ls [])) : ∀ (n : Nat) (S : zs_T) (x2 : Int32), zl_2 (zb_X11_reflects_88) n S x2 = some o → ∀ (H : Heap) (locs : List Loc) (ls : Array Slot), zg_W G S s H locs → lv_has ls 10 [(0, .ref (zg_q G 40)), (2, .int x2)] → W p l e zr_m_X11_reflects s m args below meth c H locs 0 0 (MQ below (zg_Q G none S1) args s 0 0 (zg_A G)) (F0 m 88 ls []) := by
  intro n
  induction n with
  | zero => intro S x2 h; cases h
  | succ n ih =>
    intro S x2 h H locs ls w hl
    replace h : zb_X11_reflects_88 (zl_2 (zb_X11_reflects_88) n) S x2 = some o := h
    generalize zl_2 (zb_X11_reflects_88) n = rec at ih h
    unfold zb_X11_reflects_88 at h
    refine lv_iload_n C.1 C.2.1 dX11_reflects_88 rfl (lv_at hl 1 rfl) ?_
    refine lv_bipush (v := 9) C.1 C.2.1 dX11_reflects_89 (by decide) ?_
    refine zr_ic_ge (tgt := 315) C dX11_reflects_91 (by decide) h (fun h => ?_) (fun h => ?_)
    · exact kont _ (Option.some.inj h).symm _ _ _ w (lv_sub hl [] rfl)
    · refine lv_aload_n C.1 C.2.1 dX11_reflects_94 rfl (lv_at hl 0 rfl) ?_
      refine zr_get C w 40 zm_w_X11 (zw_g40 G _) rfl 23 (by decide) zm_f_X11_54 rfl dX11_reflects_95 ?_
      refine lv_iconst (v := 1) C.1 C.2.1 dX11_reflects_98 (by decide) ?_
      refine zr_lald C w 54 (zw_g54 G _) dX11_reflects_99 h (fun h => ?_)
      refine zr_callSl C w (As := [.long (S.2 54 (Int32.toNatClampNeg (1 : Int32)))]) (zm_X11_size l G _ _ _ rfl) zm_c_X11_size zm_l_X11_124 zm_s_X11_size zm_0_X11 zm_d_X11_size ⟨rfl, rfl⟩ ⟨Nat.le_of_ble_eq_true rfl, Nat.le_of_ble_eq_true rfl⟩ hl.1 rfl rfl (Nat.le_of_ble_eq_true rfl) dX11_reflects_100 ⟨Nat.le_of_ble_eq_true rfl, Nat.le_of_ble_eq_true rfl⟩ (fun H locs w => ?_)
      refine zr_ltl h (fun v9 h => ?_)
      refine lv_lstore_n (lv' := [(3, .long v9), (0, .ref (zg_q G 40)), (2, .int x2)]) C.1 C.2.1 dX11_reflects_103 rfl hl (by decide) rfl (fun ls hl => ?_)
      refine lv_aload_n C.1 C.2.1 dX11_reflects_104 rfl (lv_at hl 1 rfl) ?_
      refine zr_get C w 40 zm_w_X11 (zw_g40 G _) rfl 23 (by decide) zm_f_X11_54 rfl dX11_reflects_105 ?_
      refine lv_iconst (v := 0) C.1 C.2.1 dX11_reflects_108 (by decide) ?_
      refine zr_lald C w 54 (zw_g54 G _) dX11_reflects_109 h (fun h => ?_)
      refine lv_lload_n C.1 C.2.1 dX11_reflects_110 rfl (lv_at hl 0 rfl) ?_
      refine zr_lc_ge (tgt := 116) C dX11_reflects_111 dX11_reflects_112 (by decide) h (fun h => ?_) (fun h => ?_)
      · refine lv_lload_n C.1 C.2.1 dX11_reflects_116 rfl (lv_at hl 0 rfl) ?_
        refine lv_lconst (v := 0) C.1 C.2.1 dX11_reflects_117 (by decide) ?_
        refine zr_lc_ne (tgt := 126) C dX11_reflects_118 dX11_reflects_119 (by decide) h (fun h => ?_) (fun h => ?_)
        · refine lv_lload_n C.1 C.2.1 dX11_reflects_126 rfl (lv_at hl 0 rfl) ?_
          refine lv_ldc2 (v := 32768) C.1 C.2.1 C.2.2.2.1 (C.2.2.2.2.1 _ zm_k_X11_105) dX11_reflects_127 ?_
          refine lv_lmul C.1 C.2.1 dX11_reflects_130 ?_
          refine lv_aload_n C.1 C.2.1 dX11_reflects_131 rfl (lv_at hl 1 rfl) ?_
          refine zr_get C w 40 zm_w_X11 (zw_g40 G _) rfl 23 (by decide) zm_f_X11_54 rfl dX11_reflects_132 ?_
          refine lv_iconst (v := 0) C.1 C.2.1 dX11_reflects_135 (by decide) ?_
          refine zr_lald C w 54 (zw_g54 G _) dX11_reflects_136 h (fun h => ?_)
          obtain ⟨n_, h⟩ := zc_nl_x h
          refine lv_ldiv C.1 C.2.1 dX11_reflects_137 n_ ?_
          exact zq_X11_reflects_138 hr _ C rec _ _ _ o hor kont ih h _ _ _ w (lv_sub hl [1, 2] rfl)
        · refine lv_lconst (v := 0) C.1 C.2.1 dX11_reflects_122 (by decide) ?_
          refine lv_goto (tgt := 138) C.1 C.2.1 dX11_reflects_123 (by decide) ?_
          exact zq_X11_reflects_138 hr _ C rec _ _ _ o hor kont ih h _ _ _ w (lv_sub hl [1, 2] rfl)
      · exact zr_retv C w hr dX11_reflects_115 (hor _ (Option.some.inj h).symm)
set_option maxHeartbeats 4000000 in
set_option maxRecDepth 100000 in
theorem zm_X11_reflects (l : Launch) (G : zg_T) (S : zs_T) (S1 : zs_T) (h : zf_X11_reflects S = some S1) : Met l yX11_reflects (Cond.code yX11_reflects cX11_reflects 10 none :: zt_G) zr_m_X11_reflects (va_Pc [.ref (zg_q G 40)] (zg_P G S)) (zg_Q G none S1) 0 0 (zg_A G) := by
  refine zx_met (by decide +kernel) (Nat.le_of_ble_eq_true rfl) (lv := [(0, .ref (zg_q G 40))]) rfl ?_
  intro p e s m below meth c C hr w ls hl
  replace C : zx_C p s m _ meth c G RX11 cX11_reflects 10 := C
  unfold zf_X11_reflects at h
  refine lv_iconst (v := 0) C.1 C.2.1 dX11_reflects_0 (by decide) ?_
  refine lv_istore_n (lv' := [(1, .int (0 : Int32)), (0, .ref (zg_q G 40))]) C.1 C.2.1 dX11_reflects_1 rfl hl (by decide) rfl (fun ls hl => ?_)
  obtain ⟨S3, hc, h⟩ := zc_b1_x h
  refine zk_X11_reflects_2 C S3 (fun H locs ls w hl => ?_) _ _ _ hc _ _ _ w (lv_sub hl [1, 0] rfl)
  clear hc
  refine lv_aload_n C.1 C.2.1 dX11_reflects_21 rfl (lv_at hl 0 rfl) ?_
  refine zr_get C w 40 zm_w_X11 (zw_g40 G _) rfl 22 (by decide) zm_f_X11_51 rfl dX11_reflects_22 ?_
  refine lv_iconst (v := 0) C.1 C.2.1 dX11_reflects_25 (by decide) ?_
  refine zr_lald C w 53 (zw_g53 G _) dX11_reflects_26 h (fun h => ?_)
  refine lv_lconst (v := 0) C.1 C.2.1 dX11_reflects_27 (by decide) ?_
  refine zr_lc_ne (tgt := 33) C dX11_reflects_28 dX11_reflects_29 (by decide) h (fun h => ?_) (fun h => ?_)
  · refine lv_aload_n C.1 C.2.1 dX11_reflects_33 rfl (lv_at hl 0 rfl) ?_
    refine zr_get C w 40 zm_w_X11 (zw_g40 G _) rfl 22 (by decide) zm_f_X11_51 rfl dX11_reflects_34 ?_
    refine lv_iconst (v := 0) C.1 C.2.1 dX11_reflects_37 (by decide) ?_
    refine zr_lald C w 53 (zw_g53 G _) dX11_reflects_38 h (fun h => ?_)
    obtain ⟨v4, hc, h⟩ := zc_b1_x h
    refine zr_callSi C w (As := [.long (S3.2 53 (Int32.toNatClampNeg (0 : Int32)))]) (zm_X11_norm l G _ _ _ hc) zm_c_X11_norm zm_l_X11_131 zm_s_X11_norm zm_0_X11 zm_d_X11_norm ⟨rfl, rfl⟩ ⟨Nat.le_of_ble_eq_true rfl, Nat.le_of_ble_eq_true rfl⟩ hl.1 rfl rfl (Nat.le_of_ble_eq_true rfl) dX11_reflects_39 ⟨Nat.le_of_ble_eq_true rfl, Nat.le_of_ble_eq_true rfl⟩ (fun H locs w => ?_)
    clear hc
    refine lv_istore_n (lv' := [(1, .int v4), (0, .ref (zg_q G 40))]) C.1 C.2.1 dX11_reflects_42 rfl hl (by decide) rfl (fun ls hl => ?_)
    refine lv_iconst (v := 0) C.1 C.2.1 dX11_reflects_43 (by decide) ?_
    refine lv_istore_n (lv' := [(2, .int (0 : Int32)), (1, .int v4), (0, .ref (zg_q G 40))]) C.1 C.2.1 dX11_reflects_44 rfl hl (by decide) rfl (fun ls hl => ?_)
    obtain ⟨S8, hc, h⟩ := zc_b1_x h
    refine zk_X11_reflects_45 C v4 S8 (fun H locs ls w hl => ?_) _ _ _ hc _ _ _ w (lv_sub hl [2, 1, 0] rfl)
    clear hc
    refine lv_iconst (v := 1) C.1 C.2.1 dX11_reflects_86 (by decide) ?_
    refine lv_istore_n (lv' := [(2, .int (1 : Int32)), (0, .ref (zg_q G 40))]) C.1 C.2.1 dX11_reflects_87 rfl hl (by decide) rfl (fun ls hl => ?_)
    obtain ⟨o_, hc, h⟩ := zc_s1_x h
    refine zk_X11_reflects_88 hr _ C o_ h.2 (fun S23 e_ H locs ls w hl => ?_) _ _ _ hc _ _ _ w (lv_sub hl [1, 0] rfl)
    replace h := h.1 _ e_
    clear e_ hc
    exact zr_retv C w hr dX11_reflects_315 (Option.some.inj h)
  · exact zr_retv C w hr dX11_reflects_32 (Option.some.inj h)
set_option maxHeartbeats 4000000 in
set_option maxRecDepth 100000 in
theorem zm_X11_tableA (l : Launch) (G : zg_T) (S : zs_T) (a1 : Int32) (r : Int32) (h : zf_X11_tableA a1 = r) : Met l yX11_tableA (Cond.code yX11_tableA cX11_tableA 1 (some .int) :: zt_G) zr_m_X11_tableA (va_Pc [.int a1] (zg_P G S)) (zg_Q G (some (.int r)) S) 0 0 (zg_A G) := by
  refine zx_met (by decide +kernel) (Nat.le_of_ble_eq_true rfl) (lv := [(0, .int a1)]) rfl ?_
  intro p e s m below meth c C hr w ls hl
  replace C : zx_C p s m _ meth c G RX11 cX11_tableA 1 := C
  unfold zf_X11_tableA at h
  refine lv_iload_n C.1 C.2.1 dX11_tableA_0 rfl (lv_at hl 0 rfl) ?_
  refine lv_iconst (v := 4) C.1 C.2.1 dX11_tableA_1 (by decide) ?_
  refine zr_ic_ge (tgt := 11) C dX11_tableA_2 (by decide) h (fun h => ?_) (fun h => ?_)
  · refine lv_iload_n C.1 C.2.1 dX11_tableA_11 rfl (lv_at hl 0 rfl) ?_
    refine lv_iconst (v := 4) C.1 C.2.1 dX11_tableA_12 (by decide) ?_
    refine zr_ic_ne (tgt := 22) C dX11_tableA_13 (by decide) h (fun h => ?_) (fun h => ?_)
    · refine lv_iload_n C.1 C.2.1 dX11_tableA_22 rfl (lv_at hl 0 rfl) ?_
      refine lv_iconst (v := 5) C.1 C.2.1 dX11_tableA_23 (by decide) ?_
      refine zr_ic_ne (tgt := 33) C dX11_tableA_24 (by decide) h (fun h => ?_) (fun h => ?_)
      · refine lv_iload_n C.1 C.2.1 dX11_tableA_33 rfl (lv_at hl 0 rfl) ?_
        refine lv_bipush (v := 6) C.1 C.2.1 dX11_tableA_34 (by decide) ?_
        refine zr_ic_ne (tgt := 45) C dX11_tableA_36 (by decide) h (fun h => ?_) (fun h => ?_)
        · refine lv_sipush (v := 9036) C.1 C.2.1 dX11_tableA_45 (by decide) ?_
          exact zr_reti C w hr dX11_tableA_48 h rfl
        · refine lv_sipush (v := 8534) C.1 C.2.1 dX11_tableA_39 (by decide) ?_
          refine lv_goto (tgt := 48) C.1 C.2.1 dX11_tableA_42 (by decide) ?_
          exact zr_reti C w hr dX11_tableA_48 h rfl
      · refine lv_sipush (v := 15360) C.1 C.2.1 dX11_tableA_27 (by decide) ?_
        refine lv_goto (tgt := 48) C.1 C.2.1 dX11_tableA_30 (by decide) ?_
        exact zr_reti C w hr dX11_tableA_48 h rfl
    · refine lv_sipush (v := 13964) C.1 C.2.1 dX11_tableA_16 (by decide) ?_
      refine lv_goto (tgt := 48) C.1 C.2.1 dX11_tableA_19 (by decide) ?_
      exact zr_reti C w hr dX11_tableA_48 h rfl
  · refine lv_sipush (v := 20480) C.1 C.2.1 dX11_tableA_5 (by decide) ?_
    refine lv_goto (tgt := 48) C.1 C.2.1 dX11_tableA_8 (by decide) ?_
    exact zr_reti C w hr dX11_tableA_48 h rfl
set_option maxHeartbeats 4000000 in
set_option maxRecDepth 100000 in
theorem zm_X11_lower (l : Launch) (G : zg_T) (S : zs_T) (a1 : Int64) (a2 : Int64) (r : Int64) (h : zf_X11_lower a1 a2 = r) : Met l yX11_lower (Cond.code yX11_lower cX11_lower 4 (some .long) :: zt_G) zr_m_X11_lower (va_Pc [.long a1, .long a2] (zg_P G S)) (zg_Q G (some (.long r)) S) 0 0 (zg_A G) := by
  refine zx_met (by decide +kernel) (Nat.le_of_ble_eq_true rfl) (lv := [(0, .long a1), (2, .long a2)]) rfl ?_
  intro p e s m below meth c C hr w ls hl
  replace C : zx_C p s m _ meth c G RX11 cX11_lower 4 := C
  unfold zf_X11_lower at h
  refine lv_lload_n C.1 C.2.1 dX11_lower_0 rfl (lv_at hl 0 rfl) ?_
  refine lv_lload_n C.1 C.2.1 dX11_lower_1 rfl (lv_at hl 1 rfl) ?_
  refine lv_lmul C.1 C.2.1 dX11_lower_2 ?_
  refine lv_bipush (v := 15) C.1 C.2.1 dX11_lower_3 (by decide) ?_
  refine lv_lshr C.1 C.2.1 dX11_lower_5 rfl ?_
  refine zr_callSl C w (As := [.long ((a1 * a2) >>> (Int32.toInt64 (15 : Int32) &&& 63))]) (zm_X11_cut l G _ _ _ rfl) zm_c_X11_cut zm_l_X11_82 zm_s_X11_cut zm_0_X11 zm_d_X11_cut ⟨rfl, rfl⟩ ⟨Nat.le_of_ble_eq_true rfl, Nat.le_of_ble_eq_true rfl⟩ hl.1 rfl rfl (Nat.le_of_ble_eq_true rfl) dX11_lower_6 ⟨Nat.le_of_ble_eq_true rfl, Nat.le_of_ble_eq_true rfl⟩ (fun H locs w => ?_)
  refine zr_ltl h (fun v1 h => ?_)
  exact zr_retl C w hr dX11_lower_9 h rfl
