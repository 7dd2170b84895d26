set_option maxHeartbeats 4000000 in
set_option maxRecDepth 100000 in
theorem zq_X11_parameter_16 {p : Program} {l : Launch} {e : Env} {s : State} {m : MethodId} {args : Array Value} {below : List Frame} {meth : Method} {c : Code} {G : zg_T} (hr : meth.sig.returnType = (some .int)) (C : zx_C p s m args meth c G RX11 cX11_parameter 2) (r : Int32) (S1 : zs_T) (S : zs_T) (y1 : Int32) (z0 : Int32) (h : zj_X11_parameter_16 S y1 z0 = some (r, S1)) (H : Heap) (locs : List Loc) (ls : Array Slot) (w : zg_W G S s H locs) (hl : lv_has ls 2 [(0, .ref (zg_q G 40)), (1, .int y1)]) : W p l e zr_m_X11_parameter s m args below meth c H locs 0 0 (MQ below (zg_Q G (some (.int r)) S1) args s 0 0 (zg_A G)) (F0 m 16 ls [.int z0, .ref (zg_q G 40)]) := by
  unfold zj_X11_parameter_16 at h
  obtain ⟨v1, S2, hc, h⟩ := zc_b2_x h
  refine zr_callVi C w 40 (zw_g40 G _) rfl (As := [.int z0]) (zm_X11_refuses l G _ _ _ _ hc) zm_c_X11_refuses zm_l_X11_91 zm_i_X11_refuses zm_e_X11_refuses zm_0_X11 zm_d_X11_refuses ⟨rfl, rfl⟩ ⟨Nat.le_of_ble_eq_true rfl, Nat.le_of_ble_eq_true rfl⟩ hl.1 rfl rfl (Nat.le_of_ble_eq_true rfl) dX11_parameter_16 ⟨Nat.le_of_ble_eq_true rfl, Nat.le_of_ble_eq_true rfl⟩ (fun H locs w => ?_)
  clear hc
  refine zr_if_eq (tgt := 26) C dX11_parameter_19 (by decide) h (fun h => ?_) (fun h => ?_)
  · refine lv_aload_n C.1 C.2.1 dX11_parameter_26 rfl (lv_at hl 0 rfl) ?_
    refine zr_get C w 40 zm_w_X11 (zw_g40 G _) rfl 5 (by decide) zm_f_X11_17 rfl dX11_parameter_27 ?_
    refine lv_iload_n C.1 C.2.1 dX11_parameter_30 rfl (lv_at hl 1 rfl) ?_
    refine zr_iald C w 43 (zw_g43 G _) dX11_parameter_31 h (fun h => ?_)
    exact zr_reti C w hr dX11_parameter_32 (congrArg Prod.fst (Option.some.inj h)) (congrArg Prod.snd (Option.some.inj h))
  · refine lv_iconst (v := 0) C.1 C.2.1 dX11_parameter_22 (by decide) ?_
    refine lv_goto (tgt := 32) C.1 C.2.1 dX11_parameter_23 (by decide) ?_
    exact zr_reti C w hr dX11_parameter_32 (congrArg Prod.fst (Option.some.inj h)) (congrArg Prod.snd (Option.some.inj h))
set_option maxHeartbeats 4000000 in
set_option maxRecDepth 100000 in
theorem zq_X11_parameter_11 {p : Program} {l : Launch} {e : Env} {s : State} {m : MethodId} {args : Array Value} {below : List Frame} {meth : Method} {c : Code} {G : zg_T} (hr : meth.sig.returnType = (some .int)) (C : zx_C p s m args meth c G RX11 cX11_parameter 2) (r : Int32) (S1 : zs_T) (S : zs_T) (y1 : Int32) (h : zj_X11_parameter_11 S y1 = some (r, S1)) (H : Heap) (locs : List Loc) (ls : Array Slot) (w : zg_W G S s H locs) (hl : lv_has ls 2 [(0, .ref (zg_q G 40)), (1, .int y1)]) : W p l e zr_m_X11_parameter s m args below meth c H locs 0 0 (MQ below (zg_Q G (some (.int r)) S1) args s 0 0 (zg_A G)) (F0 m 11 ls [.ref (zg_q G 40)]) := by
  unfold zj_X11_parameter_11 at h
  refine lv_iconst (v := 1) C.1 C.2.1 dX11_parameter_11 (by decide) ?_
  refine lv_goto (tgt := 16) C.1 C.2.1 dX11_parameter_12 (by decide) ?_
  exact zq_X11_parameter_16 hr C _ _ _ _ _ h _ _ _ w (lv_sub hl [0, 1] rfl)
set_option maxHeartbeats 4000000 in
set_option maxRecDepth 100000 in
theorem zm_X11_parameter (l : Launch) (G : zg_T) (S : zs_T) (a1 : Int32) (r : Int32) (S1 : zs_T) (h : zf_X11_parameter S a1 = some (r, S1)) : Met l yX11_parameter (Cond.code yX11_parameter cX11_parameter 2 (some .int) :: zt_G) zr_m_X11_parameter (va_Pc [.ref (zg_q G 40), .int a1] (zg_P G S)) (zg_Q G (some (.int r)) S1) 0 0 (zg_A G) := by
  refine zx_met (by decide +kernel) (Nat.le_of_ble_eq_true rfl) (lv := [(0, .ref (zg_q G 40)), (1, .int a1)]) rfl ?_
  intro p e s m below meth c C hr w ls hl
  replace C : zx_C p s m _ meth c G RX11 cX11_parameter 2 := C
  unfold zf_X11_parameter at h
  refine lv_aload_n C.1 C.2.1 dX11_parameter_0 rfl (lv_at hl 0 rfl) ?_
  refine lv_iload_n C.1 C.2.1 dX11_parameter_1 rfl (lv_at hl 1 rfl) ?_
  refine zr_if_lt (tgt := 11) C dX11_parameter_2 (by decide) h (fun h => ?_) (fun h => ?_)
  · exact zq_X11_parameter_11 hr C _ _ _ _ h _ _ _ w (lv_sub hl [0, 1] rfl)
  · refine lv_iload_n C.1 C.2.1 dX11_parameter_5 rfl (lv_at hl 1 rfl) ?_
    refine lv_bipush (v := 75) C.1 C.2.1 dX11_parameter_6 (by decide) ?_
    refine zr_ic_le (tgt := 15) C dX11_parameter_8 (by decide) h (fun h => ?_) (fun h => ?_)
    · refine lv_iconst (v := 0) C.1 C.2.1 dX11_parameter_15 (by decide) ?_
      exact zq_X11_parameter_16 hr C _ _ _ _ _ h _ _ _ w (lv_sub hl [0, 1] rfl)
    · exact zq_X11_parameter_11 hr C _ _ _ _ h _ _ _ w (lv_sub hl [0, 1] rfl)
set_option maxHeartbeats 4000000 in
set_option maxRecDepth 100000 in
theorem zk_X11_feed_42 {p : Program} {l : Launch} {e : Env} {s : State} {m : MethodId} {args : Array Value} {below : List Frame} {meth : Method} {c : Code} {G : zg_T} {Q : State → Prop} (C : zx_C p s m args meth c G RX11 cX11_feed 5) (f1 : Int64) (f3 : Int32) (oS : zs_T) (kont : ∀ (H : Heap) (locs : List Loc) (ls : Array Slot), zg_W G oS s H locs → lv_has ls 5 [(0, .ref (zg_q G 40))] → W p l e zr_m_X11_feed s m args below meth c H locs 0 0 Q (F0 m 85 ls [])) : ∀ (n : Nat) (S : zs_T) (x4 : Int32), zl_2 (zb_X11_feed_42 f1 f3) n S x4 = some oS → ∀ (H : Heap) (locs : List Loc) (ls : Array Slot), zg_W G S s H locs → lv_has ls 5 [(0, .ref (zg_q G 40)), (1, .long f1), (3, .int f3), (4, .int x4)] → W p l e zr_m_X11_feed s m args below meth c H locs 0 0 Q (F0 m 42 ls []) := by
  intro n
  induction n with
  | zero => intro S x4 h; cases h
  | succ n ih =>
    intro S x4 h H locs ls w hl
    replace h : zb_X11_feed_42 f1 f3 (zl_2 (zb_X11_feed_42 f1 f3) n) S x4 = some oS := h
    generalize zl_2 (zb_X11_feed_42 f1 f3) n = rec at ih h
    unfold zb_X11_feed_42 at h
    refine lv_iload C.1 C.2.1 dX11_feed_42 (lv_at hl 3 rfl) ?_
    refine lv_iload_n C.1 C.2.1 dX11_feed_44 rfl (lv_at hl 2 rfl) ?_
    refine zr_ic_ge (tgt := 85) C dX11_feed_45 (by decide) h (fun h => ?_) (fun h => ?_)
    · cases h
      exact kont _ _ _ w (lv_sub hl [0] rfl)
    · refine lv_aload_n C.1 C.2.1 dX11_feed_48 rfl (lv_at hl 0 rfl) ?_
      refine zr_get C w 40 zm_w_X11 (zw_g40 G _) rfl 4 (by decide) zm_f_X11_13 rfl dX11_feed_49 ?_
      refine lv_aload_n C.1 C.2.1 dX11_feed_52 rfl (lv_at hl 0 rfl) ?_
      refine zr_get C w 40 zm_w_X11 (zw_g40 G _) rfl 3 (by decide) zm_f_X11_241 rfl dX11_feed_53 ?_
      refine lv_lload_n C.1 C.2.1 dX11_feed_56 rfl (lv_at hl 1 rfl) ?_
      refine lv_bipush (v := 8) C.1 C.2.1 dX11_feed_57 (by decide) ?_
      refine lv_iload C.1 C.2.1 dX11_feed_59 (lv_at hl 3 rfl) ?_
      refine lv_imul C.1 C.2.1 dX11_feed_61 ?_
      refine lv_lshr C.1 C.2.1 dX11_feed_62 rfl ?_
      refine lv_ldc2 (v := 255) C.1 C.2.1 C.2.2.2.1 (C.2.2.2.2.1 _ zm_k_X11_244) dX11_feed_63 ?_
      refine lv_land C.1 C.2.1 dX11_feed_66 ?_
      refine lv_l2i C.1 C.2.1 dX11_feed_67 rfl ?_
      refine zr_iast C w 42 (zw_g42 G _) (zw_s42 G _) dX11_feed_68 h (fun S3 H locs w h => ?_)
      refine lv_aload_n C.1 C.2.1 dX11_feed_69 rfl (lv_at hl 0 rfl) ?_
      refine lv_dup C.1 C.2.1 dX11_feed_70 rfl ?_
      refine zr_get C w 40 zm_w_X11 (zw_g40 G _) rfl 3 (by decide) zm_f_X11_241 rfl dX11_feed_71 ?_
      refine lv_iconst (v := 1) C.1 C.2.1 dX11_feed_74 (by decide) ?_
      refine lv_iadd C.1 C.2.1 dX11_feed_75 ?_
      refine zr_put C w 40 zm_w_X11 tyX11 tyX11_ok nmX11 (zw_g40 G _) rfl 3 (by decide) zm_f_X11_241 rfl (ty := .int) (by decide +kernel) rfl rfl (Nat.le_of_ble_eq_true rfl) (zw_f40_3 G _ _) dX11_feed_76 h (fun S4 H locs w h => ?_)
      obtain ⟨v5, e_, h⟩ := zc_lt_x h
      refine lv_iinc (v := v5) (lv' := [(4, .int v5), (0, .ref (zg_q G 40)), (1, .long f1), (3, .int f3)]) C.1 C.2.1 dX11_feed_79 hl (k := 3) rfl (by subst e_; rfl) (by decide) rfl (fun ls hl => ?_)
      clear e_
      refine lv_goto (tgt := 42) C.1 C.2.1 dX11_feed_82 (by decide) ?_
      exact ih _ _ h _ _ _ w (lv_sub hl [1, 2, 3, 0] rfl)
set_option maxHeartbeats 4000000 in
set_option maxRecDepth 100000 in
theorem zq_X11_feed_31 {p : Program} {l : Launch} {e : Env} {s : State} {m : MethodId} {args : Array Value} {below : List Frame} {meth : Method} {c : Code} {G : zg_T} (hr : meth.sig.returnType = (some .int)) (C : zx_C p s m args meth c G RX11 cX11_feed 5) (r : Int32) (S1 : zs_T) (S : zs_T) (y1 : Int64) (y3 : Int32) (z0 : Int32) (h : zj_X11_feed_31 S y1 y3 z0 = some (r, S1)) (H : Heap) (locs : List Loc) (ls : Array Slot) (w : zg_W G S s H locs) (hl : lv_has ls 5 [(0, .ref (zg_q G 40)), (1, .long y1), (3, .int y3)]) : W p l e zr_m_X11_feed s m args below meth c H locs 0 0 (MQ below (zg_Q G (some (.int r)) S1) args s 0 0 (zg_A G)) (F0 m 31 ls [.int z0, .ref (zg_q G 40)]) := by
  unfold zj_X11_feed_31 at h
  obtain ⟨v1, S2, hc, h⟩ := zc_b2_x h
  refine zr_callVi C w 40 (zw_g40 G _) rfl (As := [.int z0]) (zm_X11_refuses l G _ _ _ _ hc) zm_c_X11_refuses zm_l_X11_91 zm_i_X11_refuses zm_e_X11_refuses zm_0_X11 zm_d_X11_refuses ⟨rfl, rfl⟩ ⟨Nat.le_of_ble_eq_true rfl, Nat.le_of_ble_eq_true rfl⟩ hl.1 rfl rfl (Nat.le_of_ble_eq_true rfl) dX11_feed_31 ⟨Nat.le_of_ble_eq_true rfl, Nat.le_of_ble_eq_true rfl⟩ (fun H locs w => ?_)
  clear hc
  refine zr_if_eq (tgt := 39) C dX11_feed_34 (by decide) h (fun h => ?_) (fun h => ?_)
  · refine lv_iconst (v := 0) C.1 C.2.1 dX11_feed_39 (by decide) ?_
    refine lv_istore (lv' := [(4, .int (0 : Int32)), (0, .ref (zg_q G 40)), (1, .long y1), (3, .int y3)]) C.1 C.2.1 dX11_feed_40 hl (by decide) rfl (fun ls hl => ?_)
    obtain ⟨S6, hc, h⟩ := zc_b1_x h
    refine zk_X11_feed_42 C y1 y3 S6 (fun H locs ls w hl => ?_) _ _ _ hc _ _ _ w (lv_sub hl [1, 2, 3, 0] rfl)
    clear hc
    refine lv_aload_n C.1 C.2.1 dX11_feed_85 rfl (lv_at hl 0 rfl) ?_
    refine zr_get C w 40 zm_w_X11 (zw_g40 G _) rfl 3 (by decide) zm_f_X11_241 rfl dX11_feed_86 ?_
    exact zr_reti C w hr dX11_feed_89 (congrArg Prod.fst (Option.some.inj h)) (congrArg Prod.snd (Option.some.inj h))
  · refine lv_iconst (v := 0) C.1 C.2.1 dX11_feed_37 (by decide) ?_
    exact zr_reti C w hr dX11_feed_38 (congrArg Prod.fst (Option.some.inj h)) (congrArg Prod.snd (Option.some.inj h))
set_option maxHeartbeats 4000000 in
set_option maxRecDepth 100000 in
theorem zq_X11_feed_11 {p : Program} {l : Launch} {e : Env} {s : State} {m : MethodId} {args : Array Value} {below : List Frame} {meth : Method} {c : Code} {G : zg_T} (hr : meth.sig.returnType = (some .int)) (C : zx_C p s m args meth c G RX11 cX11_feed 5) (r : Int32) (S1 : zs_T) (S : zs_T) (y1 : Int64) (y3 : Int32) (h : zj_X11_feed_11 S y1 y3 = some (r, S1)) (H : Heap) (locs : List Loc) (ls : Array Slot) (w : zg_W G S s H locs) (hl : lv_has ls 5 [(0, .ref (zg_q G 40)), (1, .long y1), (3, .int y3)]) : W p l e zr_m_X11_feed s m args below meth c H locs 0 0 (MQ below (zg_Q G (some (.int r)) S1) args s 0 0 (zg_A G)) (F0 m 11 ls [.ref (zg_q G 40)]) := by
  unfold zj_X11_feed_11 at h
  refine lv_iconst (v := 1) C.1 C.2.1 dX11_feed_11 (by decide) ?_
  refine lv_goto (tgt := 31) C.1 C.2.1 dX11_feed_12 (by decide) ?_
  exact zq_X11_feed_31 hr C _ _ _ _ _ _ h _ _ _ w (lv_sub hl [0, 1, 2] rfl)
set_option maxHeartbeats 4000000 in
set_option maxRecDepth 100000 in
theorem zm_X11_feed (l : Launch) (G : zg_T) (S : zs_T) (a1 : Int64) (a2 : Int32) (r : Int32) (S1 : zs_T) (h : zf_X11_feed S a1 a2 = some (r, S1)) : Met l yX11_feed (Cond.code yX11_feed cX11_feed 5 (some .int) :: zt_G) zr_m_X11_feed (va_Pc [.ref (zg_q G 40), .long a1, .int a2] (zg_P G S)) (zg_Q G (some (.int r)) S1) 0 0 (zg_A G) := by
  refine zx_met (by decide +kernel) (Nat.le_of_ble_eq_true rfl) (lv := [(0, .ref (zg_q G 40)), (1, .long a1), (3, .int a2)]) rfl ?_
  intro p e s m below meth c C hr w ls hl
  replace C : zx_C p s m _ meth c G RX11 cX11_feed 5 := C
  unfold zf_X11_feed at h
  refine lv_aload_n C.1 C.2.1 dX11_feed_0 rfl (lv_at hl 0 rfl) ?_
  refine lv_iload_n C.1 C.2.1 dX11_feed_1 rfl (lv_at hl 2 rfl) ?_
  refine zr_if_lt (tgt := 11) C dX11_feed_2 (by decide) h (fun h => ?_) (fun h => ?_)
  · exact zq_X11_feed_11 hr C _ _ _ _ _ h _ _ _ w (lv_sub hl [0, 1, 2] rfl)
  · refine lv_iload_n C.1 C.2.1 dX11_feed_5 rfl (lv_at hl 2 rfl) ?_
    refine lv_bipush (v := 8) C.1 C.2.1 dX11_feed_6 (by decide) ?_
    refine zr_ic_le (tgt := 15) C dX11_feed_8 (by decide) h (fun h => ?_) (fun h => ?_)
    · refine lv_aload_n C.1 C.2.1 dX11_feed_15 rfl (lv_at hl 0 rfl) ?_
      refine zr_get C w 40 zm_w_X11 (zw_g40 G _) rfl 3 (by decide) zm_f_X11_241 rfl dX11_feed_16 ?_
      refine lv_iload_n C.1 C.2.1 dX11_feed_19 rfl (lv_at hl 2 rfl) ?_
      refine lv_iadd C.1 C.2.1 dX11_feed_20 ?_
      refine lv_bipush (v := 33) C.1 C.2.1 dX11_feed_21 (by decide) ?_
      refine zr_ic_le (tgt := 30) C dX11_feed_23 (by decide) h (fun h => ?_) (fun h => ?_)
      · refine lv_iconst (v := 0) C.1 C.2.1 dX11_feed_30 (by decide) ?_
        exact zq_X11_feed_31 hr C _ _ _ _ _ _ h _ _ _ w (lv_sub hl [0, 1, 2] rfl)
      · refine lv_iconst (v := 2) C.1 C.2.1 dX11_feed_26 (by decide) ?_
        refine lv_goto (tgt := 31) C.1 C.2.1 dX11_feed_27 (by decide) ?_
        exact zq_X11_feed_31 hr C _ _ _ _ _ _ h _ _ _ w (lv_sub hl [0, 1, 2] rfl)
    · exact zq_X11_feed_11 hr C _ _ _ _ _ h _ _ _ w (lv_sub hl [0, 1, 2] rfl)
set_option maxHeartbeats 4000000 in
set_option maxRecDepth 100000 in
theorem zm_X11_bits (l : Launch) (G : zg_T) (S : zs_T) (a1 : Int32) (r : Int32) (h : zf_X11_bits a1 = r) : Met l yX11_bits (Cond.code yX11_bits cX11_bits 2 (some .int) :: zt_G) zr_m_X11_bits (va_Pc [.int a1] (zg_P G S)) (zg_Q G (some (.int r)) S) 0 0 (zg_A G) := by
  refine zx_met (by decide +kernel) (Nat.le_of_ble_eq_true rfl) (lv := [(0, .int a1)]) rfl ?_
  intro p e s m below meth c C hr w ls hl
  replace C : zx_C p s m _ meth c G RX11 cX11_bits 2 := C
  unfold zf_X11_bits at h
  refine lv_iload_n C.1 C.2.1 dX11_bits_0 rfl (lv_at hl 0 rfl) ?_
  refine lv_bipush (v := 8) C.1 C.2.1 dX11_bits_1 (by decide) ?_
  refine zr_ic_ge (tgt := 37) C dX11_bits_3 (by decide) h (fun h => ?_) (fun h => ?_)
  · refine lv_iload_n C.1 C.2.1 dX11_bits_37 rfl (lv_at hl 0 rfl) ?_
    refine lv_bipush (v := 8) C.1 C.2.1 dX11_bits_38 (by decide) ?_
    refine lv_isub C.1 C.2.1 dX11_bits_40 ?_
    refine lv_bipush (v := 17) C.1 C.2.1 dX11_bits_41 (by decide) ?_
    refine lv_irem C.1 C.2.1 dX11_bits_43 (by decide) ?_
    refine zr_lti h (fun v1 h => ?_)
    refine lv_istore_n (lv' := [(1, .int v1), (0, .int a1)]) C.1 C.2.1 dX11_bits_44 rfl hl (by decide) rfl (fun ls hl => ?_)
    refine lv_iload_n C.1 C.2.1 dX11_bits_45 rfl (lv_at hl 0 rfl) ?_
    refine zr_if_ne (tgt := 54) C dX11_bits_46 (by decide) h (fun h => ?_) (fun h => ?_)
    · refine lv_iload_n C.1 C.2.1 dX11_bits_54 rfl (lv_at hl 0 rfl) ?_
      refine lv_iconst (v := 3) C.1 C.2.1 dX11_bits_55 (by decide) ?_
      refine zr_ic_ge (tgt := 63) C dX11_bits_56 (by decide) h (fun h => ?_) (fun h => ?_)
      · refine lv_iload_n C.1 C.2.1 dX11_bits_63 rfl (lv_at hl 0 rfl) ?_
        refine lv_iconst (v := 3) C.1 C.2.1 dX11_bits_64 (by decide) ?_
        refine zr_ic_ne (tgt := 73) C dX11_bits_65 (by decide) h (fun h => ?_) (fun h => ?_)
        · refine lv_iconst (v := 3) C.1 C.2.1 dX11_bits_73 (by decide) ?_
          exact zr_reti C w hr dX11_bits_74 h rfl
        · refine lv_bipush (v := 6) C.1 C.2.1 dX11_bits_68 (by decide) ?_
          refine lv_goto (tgt := 74) C.1 C.2.1 dX11_bits_70 (by decide) ?_
          exact zr_reti C w hr dX11_bits_74 h rfl
      · refine lv_iconst (v := 2) C.1 C.2.1 dX11_bits_59 (by decide) ?_
        refine lv_goto (tgt := 74) C.1 C.2.1 dX11_bits_60 (by decide) ?_
        exact zr_reti C w hr dX11_bits_74 h rfl
    · refine lv_bipush (v := 7) C.1 C.2.1 dX11_bits_49 (by decide) ?_
      refine lv_goto (tgt := 74) C.1 C.2.1 dX11_bits_51 (by decide) ?_
      exact zr_reti C w hr dX11_bits_74 h rfl
  · refine lv_iload_n C.1 C.2.1 dX11_bits_6 rfl (lv_at hl 0 rfl) ?_
    refine lv_iconst (v := 2) C.1 C.2.1 dX11_bits_7 (by decide) ?_
    refine zr_ic_ge (tgt := 16) C dX11_bits_8 (by decide) h (fun h => ?_) (fun h => ?_)
    · refine lv_iload_n C.1 C.2.1 dX11_bits_16 rfl (lv_at hl 0 rfl) ?_
      refine lv_iconst (v := 4) C.1 C.2.1 dX11_bits_17 (by decide) ?_
      refine zr_ic_ge (tgt := 25) C dX11_bits_18 (by decide) h (fun h => ?_) (fun h => ?_)
      · refine lv_iload_n C.1 C.2.1 dX11_bits_25 rfl (lv_at hl 0 rfl) ?_
        refine lv_bipush (v := 6) C.1 C.2.1 dX11_bits_26 (by decide) ?_
        refine zr_ic_ge (tgt := 35) C dX11_bits_28 (by decide) h (fun h => ?_) (fun h => ?_)
        · refine lv_iconst (v := 3) C.1 C.2.1 dX11_bits_35 (by decide) ?_
          exact zr_reti C w hr dX11_bits_36 h rfl
        · refine lv_iconst (v := 4) C.1 C.2.1 dX11_bits_31 (by decide) ?_
          refine lv_goto (tgt := 36) C.1 C.2.1 dX11_bits_32 (by decide) ?_
          exact zr_reti C w hr dX11_bits_36 h rfl
      · refine lv_iconst (v := 5) C.1 C.2.1 dX11_bits_21 (by decide) ?_
        refine lv_goto (tgt := 36) C.1 C.2.1 dX11_bits_22 (by decide) ?_
        exact zr_reti C w hr dX11_bits_36 h rfl
    · refine lv_bipush (v := 6) C.1 C.2.1 dX11_bits_11 (by decide) ?_
      refine lv_goto (tgt := 36) C.1 C.2.1 dX11_bits_13 (by decide) ?_
      exact zr_reti C w hr dX11_bits_36 h rfl
set_option maxHeartbeats 4000000 in
set_option maxRecDepth 100000 in
theorem zk_X11_take_13 {p : Program} {l : Launch} {e : Env} {s : State} {m : MethodId} {args : Array Value} {below : List Frame} {meth : Method} {c : Code} {G : zg_T} {Q : State → Prop} (C : zx_C p s m args meth c G RX11 cX11_take 4) (oS : zs_T) (kont : ∀ (H : Heap) (locs : List Loc) (ls : Array Slot), zg_W G oS s H locs → lv_has ls 4 [(0, .ref (zg_q G 40))] → W p l e zr_m_X11_take s m args below meth c H locs 0 0 Q (F0 m 32 ls [])) : ∀ (n : Nat) (S : zs_T) (x1 : Int32), zl_2 (zb_X11_take_13) n S x1 = some oS → ∀ (H : Heap) (locs : List Loc) (ls : Array Slot), zg_W G S s H locs → lv_has ls 4 [(0, .ref (zg_q G 40)), (1, .int x1)] → W p l e zr_m_X11_take s m args below meth c H locs 0 0 Q (F0 m 13 ls []) := by
  intro n
  induction n with
  | zero => intro S x1 h; cases h
  | succ n ih =>
    intro S x1 h H locs ls w hl
    replace h : zb_X11_take_13 (zl_2 (zb_X11_take_13) n) S x1 = some oS := h
    generalize zl_2 (zb_X11_take_13) n = rec at ih h
    unfold zb_X11_take_13 at h
    refine lv_iload_n C.1 C.2.1 dX11_take_13 rfl (lv_at hl 1 rfl) ?_
    refine lv_bipush (v := 33) C.1 C.2.1 dX11_take_14 (by decide) ?_
    refine zr_ic_ge (tgt := 32) C dX11_take_16 (by decide) h (fun h => ?_) (fun h => ?_)
    · cases h
      exact kont _ _ _ w (lv_sub hl [0] rfl)
    · refine lv_aload_n C.1 C.2.1 dX11_take_19 rfl (lv_at hl 0 rfl) ?_
      refine zr_get C w 40 zm_w_X11 (zw_g40 G _) rfl 4 (by decide) zm_f_X11_13 rfl dX11_take_20 ?_
      refine lv_iload_n C.1 C.2.1 dX11_take_23 rfl (lv_at hl 1 rfl) ?_
      refine lv_iconst (v := 0) C.1 C.2.1 dX11_take_24 (by decide) ?_
      refine zr_iast C w 42 (zw_g42 G _) (zw_s42 G _) dX11_take_25 h (fun S3 H locs w h => ?_)
      obtain ⟨v4, e_, h⟩ := zc_lt_x h
      refine lv_iinc (v := v4) (lv' := [(1, .int v4), (0, .ref (zg_q G 40))]) C.1 C.2.1 dX11_take_26 hl (k := 1) rfl (by subst e_; rfl) (by decide) rfl (fun ls hl => ?_)
      clear e_
      refine lv_goto (tgt := 13) C.1 C.2.1 dX11_take_29 (by decide) ?_
      exact ih _ _ h _ _ _ w (lv_sub hl [1, 0] rfl)
set_option maxHeartbeats 4000000 in
set_option maxRecDepth 100000 in
theorem zk_X11_take_58 {p : Program} {l : Launch} {e : Env} {s : State} {m : MethodId} {args : Array Value} {below : List Frame} {meth : Method} {c : Code} {G : zg_T} {Q : State → Prop} (C : zx_C p s m args meth c G RX11 cX11_take 4) (f2 : Int32) (oS : zs_T) (o1 : Int32) (kont : ∀ (H : Heap) (locs : List Loc) (ls : Array Slot), zg_W G oS s H locs → lv_has ls 4 [(0, .ref (zg_q G 40)), (1, .int o1), (2, .int f2)] → W p l e zr_m_X11_take s m args below meth c H locs 0 0 Q (F0 m 101 ls [])) : ∀ (n : Nat) (S : zs_T) (x1 : Int32) (x3 : Int32), zl_3 (zb_X11_take_58 f2) n S x1 x3 = some (oS, o1) → ∀ (H : Heap) (locs : List Loc) (ls : Array Slot), zg_W G S s H locs → lv_has ls 4 [(0, .ref (zg_q G 40)), (1, .int x1), (2, .int f2), (3, .int x3)] → W p l e zr_m_X11_take s m args below meth c H locs 0 0 Q (F0 m 58 ls []) := by
  intro n
  induction n with
  | zero => intro S x1 x3 h; cases h
  | succ n ih =>
    intro S x1 x3 h H locs ls w hl
    replace h : zb_X11_take_58 f2 (zl_3 (zb_X11_take_58 f2) n) S x1 x3 = some (oS, o1) := h
    generalize zl_3 (zb_X11_take_58 f2) n = rec at ih h
    unfold zb_X11_take_58 at h
    refine lv_iload_n C.1 C.2.1 dX11_take_58 rfl (lv_at hl 3 rfl) ?_
    refine zr_if_lt (tgt := 101) C dX11_take_59 (by decide) h (fun h => ?_) (fun h => ?_)
    · cases h
      exact kont _ _ _ w (lv_sub hl [0, 1, 2] rfl)
    · refine lv_aload_n C.1 C.2.1 dX11_take_62 rfl (lv_at hl 0 rfl) ?_
      refine zr_get C w 40 zm_w_X11 (zw_g40 G _) rfl 4 (by decide) zm_f_X11_13 rfl dX11_take_63 ?_
      refine lv_iload_n C.1 C.2.1 dX11_take_66 rfl (lv_at hl 1 rfl) ?_
      refine lv_bipush (v := 8) C.1 C.2.1 dX11_take_67 (by decide) ?_
      refine lv_idiv C.1 C.2.1 dX11_take_69 (by decide) ?_
      refine zr_lti h (fun v9 h => ?_)
      refine lv_dup2_11 C.1 C.2.1 dX11_take_70 rfl rfl ?_
      refine zr_iald C w 42 (zw_g42 G _) dX11_take_71 h (fun h => ?_)
      refine lv_aload_n C.1 C.2.1 dX11_take_72 rfl (lv_at hl 0 rfl) ?_
      refine zr_get C w 40 zm_w_X11 (zw_g40 G _) rfl 5 (by decide) zm_f_X11_17 rfl dX11_take_73 ?_
      refine lv_iload_n C.1 C.2.1 dX11_take_76 rfl (lv_at hl 2 rfl) ?_
      refine zr_iald C w 43 (zw_g43 G _) dX11_take_77 h (fun h => ?_)
      refine lv_iload_n C.1 C.2.1 dX11_take_78 rfl (lv_at hl 3 rfl) ?_
      refine lv_ishr C.1 C.2.1 dX11_take_79 ?_
      refine lv_iconst (v := 1) C.1 C.2.1 dX11_take_80 (by decide) ?_
      refine lv_iand C.1 C.2.1 dX11_take_81 ?_
      refine lv_bipush (v := 7) C.1 C.2.1 dX11_take_82 (by decide) ?_
      refine lv_iload_n C.1 C.2.1 dX11_take_84 rfl (lv_at hl 1 rfl) ?_
      refine lv_bipush (v := 8) C.1 C.2.1 dX11_take_85 (by decide) ?_
      refine lv_irem C.1 C.2.1 dX11_take_87 (by decide) ?_
      refine lv_isub C.1 C.2.1 dX11_take_88 ?_
      refine lv_ishl C.1 C.2.1 dX11_take_89 ?_
      refine lv_iadd C.1 C.2.1 dX11_take_90 ?_
      refine zr_iast C w 42 (zw_g42 G _) (zw_s42 G _) dX11_take_91 h (fun S10 H locs w h => ?_)
      obtain ⟨v11, e_, h⟩ := zc_lt_x h
      refine lv_iinc (v := v11) (lv' := [(1, .int v11), (0, .ref (zg_q G 40)), (2, .int f2), (3, .int x3)]) C.1 C.2.1 dX11_take_92 hl (k := 1) rfl (by subst e_; rfl) (by decide) rfl (fun ls hl => ?_)
      clear e_
      obtain ⟨v12, e_, h⟩ := zc_lt_x h
      refine lv_iinc (v := v12) (lv' := [(3, .int v12), (1, .int v11), (0, .ref (zg_q G 40)), (2, .int f2)]) C.1 C.2.1 dX11_take_95 hl (k := 3) rfl (by subst e_; rfl) (by decide) rfl (fun ls hl => ?_)
      clear e_
      refine lv_goto (tgt := 58) C.1 C.2.1 dX11_take_98 (by decide) ?_
      exact ih _ _ _ h _ _ _ w (lv_sub hl [2, 1, 3, 0] rfl)
set_option maxHeartbeats 4000000 in
set_option maxRecDepth 100000 in
theorem zk_X11_take_45 {p : Program} {l : Launch} {e : Env} {s : State} {m : MethodId} {args : Array Value} {below : List Frame} {meth : Method} {c : Code} {G : zg_T} {Q : State → Prop} (C : zx_C p s m args meth c G RX11 cX11_take 4) (oS : zs_T) (kont : ∀ (H : Heap) (locs : List Loc) (ls : Array Slot), zg_W G oS s H locs → lv_has ls 4 [] → W p l e zr_m_X11_take s m args below meth c H locs 0 0 Q (F0 m 107 ls [])) : ∀ (n : Nat) (S : zs_T) (x1 : Int32) (x2 : Int32), zl_3 (zb_X11_take_45) n S x1 x2 = some oS → ∀ (H : Heap) (locs : List Loc) (ls : Array Slot), zg_W G S s H locs → lv_has ls 4 [(0, .ref (zg_q G 40)), (1, .int x1), (2, .int x2)] → W p l e zr_m_X11_take s m args below meth c H locs 0 0 Q (F0 m 45 ls []) := by
  intro n
  induction n with
  | zero => intro S x1 x2 h; cases h
  | succ n ih =>
    intro S x1 x2 h H locs ls w hl
    replace h : zb_X11_take_45 (zl_3 (zb_X11_take_45) n) S x1 x2 = some oS := h
    generalize zl_3 (zb_X11_take_45) n = rec at ih h
    unfold zb_X11_take_45 at h
    refine lv_iload_n C.1 C.2.1 dX11_take_45 rfl (lv_at hl 2 rfl) ?_
    refine lv_bipush (v := 76) C.1 C.2.1 dX11_take_46 (by decide) ?_
    refine zr_ic_ge (tgt := 107) C dX11_take_48 (by decide) h (fun h => ?_) (fun h => ?_)
    · cases h
      exact kont _ _ _ w (lv_sub hl [] rfl)
    · refine lv_iload_n C.1 C.2.1 dX11_take_51 rfl (lv_at hl 2 rfl) ?_
      refine zr_callSi C w (As := [.int x2]) (zm_X11_bits l G _ _ _ rfl) zm_c_X11_bits zm_l_X11_246 zm_s_X11_bits zm_0_X11 zm_d_X11_bits ⟨rfl, rfl⟩ ⟨Nat.le_of_ble_eq_true rfl, Nat.le_of_ble_eq_true rfl⟩ hl.1 rfl rfl (Nat.le_of_ble_eq_true rfl) dX11_take_52 ⟨Nat.le_of_ble_eq_true rfl, Nat.le_of_ble_eq_true rfl⟩ (fun H locs w => ?_)
      refine zr_lti h (fun v7 h => ?_)
      refine lv_iconst (v := 1) C.1 C.2.1 dX11_take_55 (by decide) ?_
      refine lv_isub C.1 C.2.1 dX11_take_56 ?_
      refine zr_lti h (fun v8 h => ?_)
      refine lv_istore_n (lv' := [(3, .int v8), (0, .ref (zg_q G 40)), (1, .int x1), (2, .int x2)]) C.1 C.2.1 dX11_take_57 rfl hl (by decide) rfl (fun ls hl => ?_)
      obtain ⟨S13, v14, hc, h⟩ := zc_b2_x h
      refine zk_X11_take_58 C x2 S13 v14 (fun H locs ls w hl => ?_) _ _ _ _ hc _ _ _ w (lv_sub hl [1, 2, 3, 0] rfl)
      clear hc
      obtain ⟨v15, e_, h⟩ := zc_lt_x h
      refine lv_iinc (v := v15) (lv' := [(2, .int v15), (0, .ref (zg_q G 40)), (1, .int v14)]) C.1 C.2.1 dX11_take_101 hl (k := 2) rfl (by subst e_; rfl) (by decide) rfl (fun ls hl => ?_)
      clear e_
      refine lv_goto (tgt := 45) C.1 C.2.1 dX11_take_104 (by decide) ?_
      exact ih _ _ _ h _ _ _ w (lv_sub hl [1, 2, 0] rfl)
set_option maxHeartbeats 4000000 in
set_option maxRecDepth 100000 in
theorem zm_X11_take (l : Launch) (G : zg_T) (S : zs_T) (r : Int32) (S1 : zs_T) (h : zf_X11_take S = some (r, S1)) : Met l yX11_take (Cond.code yX11_take cX11_take 4 (some .int) :: zt_G) zr_m_X11_take (va_Pc [.ref (zg_q G 40)] (zg_P G S)) (zg_Q G (some (.int r)) S1) 0 0 (zg_A G) := by
  refine zx_met (by decide +kernel) (Nat.le_of_ble_eq_true rfl) (lv := [(0, .ref (zg_q G 40))]) rfl ?_
  intro p e s m below meth c C hr w ls hl
  replace C : zx_C p s m _ meth c G RX11 cX11_take 4 := C
  unfold zf_X11_take at h
  refine lv_aload_n C.1 C.2.1 dX11_take_0 rfl (lv_at hl 0 rfl) ?_
  refine lv_iconst (v := 0) C.1 C.2.1 dX11_take_1 (by decide) ?_
  refine zr_put C w 40 zm_w_X11 tyX11 tyX11_ok nmX11 (zw_g40 G _) rfl 0 (by decide) zm_f_X11_69 rfl (ty := .int) (by decide +kernel) rfl rfl (Nat.le_of_ble_eq_true rfl) (zw_f40_0 G _ _) dX11_take_2 h (fun S1 H locs w h => ?_)
  refine lv_aload_n C.1 C.2.1 dX11_take_5 rfl (lv_at hl 0 rfl) ?_
  refine lv_bipush (v := 33) C.1 C.2.1 dX11_take_6 (by decide) ?_
  refine zr_put C w 40 zm_w_X11 tyX11 tyX11_ok nmX11 (zw_g40 G _) rfl 3 (by decide) zm_f_X11_241 rfl (ty := .int) (by decide +kernel) rfl rfl (Nat.le_of_ble_eq_true rfl) (zw_f40_3 G _ _) dX11_take_8 h (fun S2 H locs w h => ?_)
  refine lv_iconst (v := 0) C.1 C.2.1 dX11_take_11 (by decide) ?_
  refine lv_istore_n (lv' := [(1, .int (0 : Int32)), (0, .ref (zg_q G 40))]) C.1 C.2.1 dX11_take_12 rfl hl (by decide) rfl (fun ls hl => ?_)
  obtain ⟨S5, hc, h⟩ := zc_b1_x h
  refine zk_X11_take_13 C S5 (fun H locs ls w hl => ?_) _ _ _ hc _ _ _ w (lv_sub hl [1, 0] rfl)
  clear hc
  refine lv_aload_n C.1 C.2.1 dX11_take_32 rfl (lv_at hl 0 rfl) ?_
  refine zr_get C w 40 zm_w_X11 (zw_g40 G _) rfl 4 (by decide) zm_f_X11_13 rfl dX11_take_33 ?_
  refine lv_iconst (v := 0) C.1 C.2.1 dX11_take_36 (by decide) ?_
  refine lv_sipush (v := 208) C.1 C.2.1 dX11_take_37 (by decide) ?_
  refine zr_iast C w 42 (zw_g42 G _) (zw_s42 G _) dX11_take_40 h (fun S6 H locs w h => ?_)
  refine lv_iconst (v := 4) C.1 C.2.1 dX11_take_41 (by decide) ?_
  refine lv_istore_n (lv' := [(1, .int (4 : Int32)), (0, .ref (zg_q G 40))]) C.1 C.2.1 dX11_take_42 rfl hl (by decide) rfl (fun ls hl => ?_)
  refine lv_iconst (v := 0) C.1 C.2.1 dX11_take_43 (by decide) ?_
  refine lv_istore_n (lv' := [(2, .int (0 : Int32)), (1, .int (4 : Int32)), (0, .ref (zg_q G 40))]) C.1 C.2.1 dX11_take_44 rfl hl (by decide) rfl (fun ls hl => ?_)
  obtain ⟨S16, hc, h⟩ := zc_b1_x h
  refine zk_X11_take_45 C S16 (fun H locs ls w hl => ?_) _ _ _ _ hc _ _ _ w (lv_sub hl [2, 1, 0] rfl)
  clear hc
  refine lv_bipush (v := 33) C.1 C.2.1 dX11_take_107 (by decide) ?_
  exact zr_reti C w hr dX11_take_109 (congrArg Prod.fst (Option.some.inj h)) (congrArg Prod.snd (Option.some.inj h))
set_option maxHeartbeats 4000000 in
set_option maxRecDepth 100000 in
theorem zm_X11_hand (l : Launch) (G : zg_T) (S : zs_T) (a1 : Int32) (r : Int32) (S1 : zs_T) (h : zf_X11_hand S a1 = some (r, S1)) : Met l yX11_hand (Cond.code yX11_hand cX11_hand 2 (some .int) :: zt_G) zr_m_X11_hand (va_Pc [.ref (zg_q G 40), .int a1] (zg_P G S)) (zg_Q G (some (.int r)) S1) 0 0 (zg_A G) := by
  refine zx_met (by decide +kernel) (Nat.le_of_ble_eq_true rfl) (lv := [(0, .ref (zg_q G 40)), (1, .int a1)]) rfl ?_
  intro p e s m below meth c C hr w ls hl
  replace C : zx_C p s m _ meth c G RX11 cX11_hand 2 := C
  unfold zf_X11_hand at h
  refine lv_aload_n C.1 C.2.1 dX11_hand_0 rfl (lv_at hl 0 rfl) ?_
  refine lv_iconst (v := 0) C.1 C.2.1 dX11_hand_1 (by decide) ?_
  refine zr_put C w 40 zm_w_X11 tyX11 tyX11_ok nmX11 (zw_g40 G _) rfl 0 (by decide) zm_f_X11_69 rfl (ty := .int) (by decide +kernel) rfl rfl (Nat.le_of_ble_eq_true rfl) (zw_f40_0 G _ _) dX11_hand_2 h (fun S1 H locs w h => ?_)
  refine lv_iload_n C.1 C.2.1 dX11_hand_5 rfl (lv_at hl 1 rfl) ?_
  refine zr_if_lt (tgt := 26) C dX11_hand_6 (by decide) h (fun h => ?_) (fun h => ?_)
  · refine lv_iconst (v := -1) C.1 C.2.1 dX11_hand_26 (by decide) ?_
    exact zr_reti C w hr dX11_hand_27 (congrArg Prod.fst (Option.some.inj h)) (congrArg Prod.snd (Option.some.inj h))
  · refine lv_iload_n C.1 C.2.1 dX11_hand_9 rfl (lv_at hl 1 rfl) ?_
    refine lv_aload_n C.1 C.2.1 dX11_hand_10 rfl (lv_at hl 0 rfl) ?_
    refine zr_get C w 40 zm_w_X11 (zw_g40 G _) rfl 3 (by decide) zm_f_X11_241 rfl dX11_hand_11 ?_
    refine zr_ic_ge (tgt := 26) C dX11_hand_14 (by decide) h (fun h => ?_) (fun h => ?_)
    · refine lv_iconst (v := -1) C.1 C.2.1 dX11_hand_26 (by decide) ?_
      exact zr_reti C w hr dX11_hand_27 (congrArg Prod.fst (Option.some.inj h)) (congrArg Prod.snd (Option.some.inj h))
    · refine lv_aload_n C.1 C.2.1 dX11_hand_17 rfl (lv_at hl 0 rfl) ?_
      refine zr_get C w 40 zm_w_X11 (zw_g40 G _) rfl 4 (by decide) zm_f_X11_13 rfl dX11_hand_18 ?_
      refine lv_iload_n C.1 C.2.1 dX11_hand_21 rfl (lv_at hl 1 rfl) ?_
      refine zr_iald C w 42 (zw_g42 G _) dX11_hand_22 h (fun h => ?_)
      refine lv_goto (tgt := 27) C.1 C.2.1 dX11_hand_23 (by decide) ?_
      exact zr_reti C w hr dX11_hand_27 (congrArg Prod.fst (Option.some.inj h)) (congrArg Prod.snd (Option.some.inj h))
set_option maxHeartbeats 4000000 in
set_option maxRecDepth 100000 in
theorem zk_X11_decode_67 {p : Program} {l : Launch} {e : Env} {s : State} {m : MethodId} {args : Array Value} {below : List Frame} {meth : Method} {c : Code} {G : zg_T} {Q : State → Prop} (C : zx_C p s m args meth c G RX11 cX11_decode 7) (f3 : Int32) (oS : zs_T) (o2 : Int32) (kont : ∀ (H : Heap) (locs : List Loc) (ls : Array Slot), zg_W G oS s H locs → lv_has ls 7 [(0, .ref (zg_q G 40)), (2, .int o2), (3, .int f3)] → W p l e zr_m_X11_decode s m args below meth c H locs 0 0 Q (F0 m 115 ls [])) : ∀ (n : Nat) (S : zs_T) (x2 : Int32) (x4 : Int32), zl_3 (zb_X11_decode_67 f3) n S x2 x4 = some (oS, o2) → ∀ (H : Heap) (locs : List Loc) (ls : Array Slot), zg_W G S s H locs → lv_has ls 7 [(0, .ref (zg_q G 40)), (2, .int x2), (3, .int f3), (4, .int x4)] → W p l e zr_m_X11_decode s m args below meth c H locs 0 0 Q (F0 m 67 ls []) := by
  intro n
  induction n with
  | zero => intro S x2 x4 h; cases h
  | succ n ih =>
    intro S x2 x4 h H locs ls w hl
    replace h : zb_X11_decode_67 f3 (zl_3 (zb_X11_decode_67 f3) n) S x2 x4 = some (oS, o2) := h
    generalize zl_3 (zb_X11_decode_67 f3) n = rec at ih h
    unfold zb_X11_decode_67 at h
    refine lv_iload C.1 C.2.1 dX11_decode_67 (lv_at hl 3 rfl) ?_
    refine zr_if_le (tgt := 115) C dX11_decode_69 (by decide) h (fun h => ?_) (fun h => ?_)
    · cases h
      exact kont _ _ _ w (lv_sub hl [0, 1, 2] rfl)
    · refine lv_aload_n C.1 C.2.1 dX11_decode_72 rfl (lv_at hl 0 rfl) ?_
      refine zr_get C w 40 zm_w_X11 (zw_g40 G _) rfl 5 (by decide) zm_f_X11_17 rfl dX11_decode_73 ?_
      refine lv_iload_n C.1 C.2.1 dX11_decode_76 rfl (lv_at hl 2 rfl) ?_
      refine lv_iconst (v := 2) C.1 C.2.1 dX11_decode_77 (by decide) ?_
      refine lv_aload_n C.1 C.2.1 dX11_decode_78 rfl (lv_at hl 0 rfl) ?_
      refine zr_get C w 40 zm_w_X11 (zw_g40 G _) rfl 5 (by decide) zm_f_X11_17 rfl dX11_decode_79 ?_
      refine lv_iload_n C.1 C.2.1 dX11_decode_82 rfl (lv_at hl 2 rfl) ?_
      refine zr_iald C w 43 (zw_g43 G _) dX11_decode_83 h (fun h => ?_)
      refine lv_imul C.1 C.2.1 dX11_decode_84 ?_
      refine lv_aload_n C.1 C.2.1 dX11_decode_85 rfl (lv_at hl 0 rfl) ?_
      refine zr_get C w 40 zm_w_X11 (zw_g40 G _) rfl 4 (by decide) zm_f_X11_13 rfl dX11_decode_86 ?_
      refine lv_iload_n C.1 C.2.1 dX11_decode_89 rfl (lv_at hl 1 rfl) ?_
      refine lv_bipush (v := 8) C.1 C.2.1 dX11_decode_90 (by decide) ?_
      refine lv_idiv C.1 C.2.1 dX11_decode_92 (by decide) ?_
      refine zr_iald C w 42 (zw_g42 G _) dX11_decode_93 h (fun h => ?_)
      refine lv_bipush (v := 7) C.1 C.2.1 dX11_decode_94 (by decide) ?_
      refine lv_iload_n C.1 C.2.1 dX11_decode_96 rfl (lv_at hl 1 rfl) ?_
      refine lv_bipush (v := 8) C.1 C.2.1 dX11_decode_97 (by decide) ?_
      refine lv_irem C.1 C.2.1 dX11_decode_99 (by decide) ?_
      refine lv_isub C.1 C.2.1 dX11_decode_100 ?_
      refine lv_ishr C.1 C.2.1 dX11_decode_101 ?_
      refine lv_iconst (v := 1) C.1 C.2.1 dX11_decode_102 (by decide) ?_
      refine lv_iand C.1 C.2.1 dX11_decode_103 ?_
      refine lv_iadd C.1 C.2.1 dX11_decode_104 ?_
      refine zr_iast C w 43 (zw_g43 G _) (zw_s43 G _) dX11_decode_105 h (fun S5 H locs w h => ?_)
      obtain ⟨v6, e_, h⟩ := zc_lt_x h
      refine lv_iinc (v := v6) (lv' := [(2, .int v6), (0, .ref (zg_q G 40)), (3, .int f3), (4, .int x4)]) C.1 C.2.1 dX11_decode_106 hl (k := 1) rfl (by subst e_; rfl) (by decide) rfl (fun ls hl => ?_)
      clear e_
      obtain ⟨v7, e_, h⟩ := zc_lt_x h
      refine lv_iinc (v := v7) (lv' := [(4, .int v7), (2, .int v6), (0, .ref (zg_q G 40)), (3, .int f3)]) C.1 C.2.1 dX11_decode_109 hl (k := 3) rfl (by subst e_; rfl) (by decide) rfl (fun ls hl => ?_)
      clear e_
      refine lv_goto (tgt := 67) C.1 C.2.1 dX11_decode_112 (by decide) ?_
      exact ih _ _ _ h _ _ _ w (lv_sub hl [2, 1, 3, 0] rfl)
set_option maxHeartbeats 4000000 in
set_option maxRecDepth 100000 in
theorem zk_X11_decode_48 {p : Program} {l : Launch} {e : Env} {s : State} {m : MethodId} {args : Array Value} {below : List Frame} {meth : Method} {c : Code} {G : zg_T} {Q : State → Prop} (C : zx_C p s m args meth c G RX11 cX11_decode 7) (oS : zs_T) (kont : ∀ (H : Heap) (locs : List Loc) (ls : Array Slot), zg_W G oS s H locs → lv_has ls 7 [(0, .ref (zg_q G 40))] → W p l e zr_m_X11_decode s m args below meth c H locs 0 0 Q (F0 m 121 ls [])) : ∀ (n : Nat) (S : zs_T) (x2 : Int32) (x3 : Int32), zl_3 (zb_X11_decode_48) n S x2 x3 = some oS → ∀ (H : Heap) (locs : List Loc) (ls : Array Slot), zg_W G S s H locs → lv_has ls 7 [(0, .ref (zg_q G 40)), (2, .int x2), (3, .int x3)] → W p l e zr_m_X11_decode s m args below meth c H locs 0 0 Q (F0 m 48 ls []) := by
  intro n
  induction n with
  | zero => intro S x2 x3 h; cases h
  | succ n ih =>
    intro S x2 x3 h H locs ls w hl
    replace h : zb_X11_decode_48 (zl_3 (zb_X11_decode_48) n) S x2 x3 = some oS := h
    generalize zl_3 (zb_X11_decode_48) n = rec at ih h
    unfold zb_X11_decode_48 at h
    refine lv_iload_n C.1 C.2.1 dX11_decode_48 rfl (lv_at hl 2 rfl) ?_
    refine lv_bipush (v := 76) C.1 C.2.1 dX11_decode_49 (by decide) ?_
    refine zr_ic_ge (tgt := 121) C dX11_decode_51 (by decide) h (fun h => ?_) (fun h => ?_)
    · cases h
      exact kont _ _ _ w (lv_sub hl [0] rfl)
    · refine lv_aload_n C.1 C.2.1 dX11_decode_54 rfl (lv_at hl 0 rfl) ?_
      refine zr_get C w 40 zm_w_X11 (zw_g40 G _) rfl 5 (by decide) zm_f_X11_17 rfl dX11_decode_55 ?_
      refine lv_iload_n C.1 C.2.1 dX11_decode_58 rfl (lv_at hl 2 rfl) ?_
      refine lv_iconst (v := 0) C.1 C.2.1 dX11_decode_59 (by decide) ?_
      refine zr_iast C w 43 (zw_g43 G _) (zw_s43 G _) dX11_decode_60 h (fun S3 H locs w h => ?_)
      refine lv_iload_n C.1 C.2.1 dX11_decode_61 rfl (lv_at hl 2 rfl) ?_
      refine zr_callSi C w (As := [.int x3]) (zm_X11_bits l G _ _ _ rfl) zm_c_X11_bits zm_l_X11_246 zm_s_X11_bits zm_0_X11 zm_d_X11_bits ⟨rfl, rfl⟩ ⟨Nat.le_of_ble_eq_true rfl, Nat.le_of_ble_eq_true rfl⟩ hl.1 rfl rfl (Nat.le_of_ble_eq_true rfl) dX11_decode_62 ⟨Nat.le_of_ble_eq_true rfl, Nat.le_of_ble_eq_true rfl⟩ (fun H locs w => ?_)
      refine zr_lti h (fun v4 h => ?_)
      refine lv_istore (lv' := [(4, .int v4), (0, .ref (zg_q G 40)), (2, .int x2), (3, .int x3)]) C.1 C.2.1 dX11_decode_65 hl (by decide) rfl (fun ls hl => ?_)
      obtain ⟨S8, v9, hc, h⟩ := zc_b2_x h
      refine zk_X11_decode_67 C x3 S8 v9 (fun H locs ls w hl => ?_) _ _ _ _ hc _ _ _ w (lv_sub hl [1, 2, 3, 0] rfl)
      clear hc
      obtain ⟨v10, e_, h⟩ := zc_lt_x h
      refine lv_iinc (v := v10) (lv' := [(3, .int v10), (0, .ref (zg_q G 40)), (2, .int v9)]) C.1 C.2.1 dX11_decode_115 hl (k := 2) rfl (by subst e_; rfl) (by decide) rfl (fun ls hl => ?_)
      clear e_
      refine lv_goto (tgt := 48) C.1 C.2.1 dX11_decode_118 (by decide) ?_
      exact ih _ _ _ h _ _ _ w (lv_sub hl [1, 2, 0] rfl)
set_option maxHeartbeats 4000000 in
set_option maxRecDepth 100000 in
theorem zk_X11_decode_187 {p : Program} {l : Launch} {e : Env} {s : State} {m : MethodId} {args : Array Value} {below : List Frame} {meth : Method} {c : Code} {G : zg_T} {Q : State → Prop} (C : zx_C p s m args meth c G RX11 cX11_decode 7) (f3 : Int32) (f5 : Int32) (oS : zs_T) (kont : ∀ (H : Heap) (locs : List Loc) (ls : Array Slot), zg_W G oS s H locs → lv_has ls 7 [(0, .ref (zg_q G 40)), (3, .int f3)] → W p l e zr_m_X11_decode s m args below meth c H locs 0 0 Q (F0 m 255 ls [])) : ∀ (n : Nat) (S : zs_T) (x6 : Int32), zl_2 (zb_X11_decode_187 f3 f5) n S x6 = some oS → ∀ (H : Heap) (locs : List Loc) (ls : Array Slot), zg_W G S s H locs → lv_has ls 7 [(0, .ref (zg_q G 40)), (3, .int f3), (5, .int f5), (6, .int x6)] → W p l e zr_m_X11_decode s m args below meth c H locs 0 0 Q (F0 m 187 ls []) := by
  intro n
  induction n with
  | zero => intro S x6 h; cases h
  | succ n ih =>
    intro S x6 h H locs ls w hl
    replace h : zb_X11_decode_187 f3 f5 (zl_2 (zb_X11_decode_187 f3 f5) n) S x6 = some oS := h
    generalize zl_2 (zb_X11_decode_187 f3 f5) n = rec at ih h
    unfold zb_X11_decode_187 at h
    refine lv_iload C.1 C.2.1 dX11_decode_187 (lv_at hl 3 rfl) ?_
    refine lv_bipush (v := 40) C.1 C.2.1 dX11_decode_189 (by decide) ?_
    refine zr_ic_ge (tgt := 255) C dX11_decode_191 (by decide) h (fun h => ?_) (fun h => ?_)
    · cases h
      exact kont _ _ _ w (lv_sub hl [0, 1] rfl)
    · refine lv_aload_n C.1 C.2.1 dX11_decode_194 rfl (lv_at hl 0 rfl) ?_
      refine zr_get C w 40 zm_w_X11 (zw_g40 G _) rfl 15 (by decide) zm_f_X11_32 rfl dX11_decode_195 ?_
      refine lv_iload C.1 C.2.1 dX11_decode_198 (lv_at hl 2 rfl) ?_
      refine lv_iload C.1 C.2.1 dX11_decode_200 (lv_at hl 3 rfl) ?_
      refine lv_iadd C.1 C.2.1 dX11_decode_202 ?_
      refine lv_aload_n C.1 C.2.1 dX11_decode_203 rfl (lv_at hl 0 rfl) ?_
      refine zr_get C w 40 zm_w_X11 (zw_g40 G _) rfl 27 (by decide) zm_f_X11_66 rfl dX11_decode_204 ?_
      refine lv_iload C.1 C.2.1 dX11_decode_207 (lv_at hl 3 rfl) ?_
      refine zr_lald C w 58 (zw_g58 G _) dX11_decode_209 h (fun h => ?_)
      refine lv_aload_n C.1 C.2.1 dX11_decode_210 rfl (lv_at hl 0 rfl) ?_
      refine zr_get C w 40 zm_w_X11 (zw_g40 G _) rfl 5 (by decide) zm_f_X11_17 rfl dX11_decode_211 ?_
      refine lv_bipush (v := 9) C.1 C.2.1 dX11_decode_214 (by decide) ?_
      refine lv_bipush (v := 17) C.1 C.2.1 dX11_decode_216 (by decide) ?_
      refine lv_iload_n C.1 C.2.1 dX11_decode_218 rfl (lv_at hl 1 rfl) ?_
      refine lv_imul C.1 C.2.1 dX11_decode_219 ?_
      refine lv_iadd C.1 C.2.1 dX11_decode_220 ?_
      refine zr_iald C w 43 (zw_g43 G _) dX11_decode_221 h (fun h => ?_)
      refine zr_callSi C w (As := [.int (S.1 43 (Int32.toNatClampNeg ((9 : Int32) + ((17 : Int32) * f3))))]) (zm_X11_tableG l G _ _ _ rfl) zm_c_X11_tableG zm_l_X11_223 zm_s_X11_tableG zm_0_X11 zm_d_X11_tableG ⟨rfl, rfl⟩ ⟨Nat.le_of_ble_eq_true rfl, Nat.le_of_ble_eq_true rfl⟩ hl.1 rfl rfl (Nat.le_of_ble_eq_true rfl) dX11_decode_222 ⟨Nat.le_of_ble_eq_true rfl, Nat.le_of_ble_eq_true rfl⟩ (fun H locs w => ?_)
      refine zr_lti h (fun v16 h => ?_)
      refine lv_i2l C.1 C.2.1 dX11_decode_225 rfl ?_
      refine lv_aload_n C.1 C.2.1 dX11_decode_226 rfl (lv_at hl 0 rfl) ?_
      refine zr_get C w 40 zm_w_X11 (zw_g40 G _) rfl 15 (by decide) zm_f_X11_32 rfl dX11_decode_227 ?_
      refine lv_iload C.1 C.2.1 dX11_decode_230 (lv_at hl 2 rfl) ?_
      refine lv_iload C.1 C.2.1 dX11_decode_232 (lv_at hl 3 rfl) ?_
      refine lv_iadd C.1 C.2.1 dX11_decode_234 ?_
      refine lv_aload_n C.1 C.2.1 dX11_decode_235 rfl (lv_at hl 0 rfl) ?_
      refine zr_get C w 40 zm_w_X11 (zw_g40 G _) rfl 16 (by decide) zm_f_X11_35 rfl dX11_decode_236 ?_
      refine lv_isub C.1 C.2.1 dX11_decode_239 ?_
      refine zr_lald C w 48 (zw_g48 G _) dX11_decode_240 h (fun h => ?_)
      refine zr_callSl C w (As := [.long (Int32.toInt64 v16), .long (S.2 48 (Int32.toNatClampNeg ((f5 + x6) - (S.1 40 16))))]) (zm_X11_rounded l G _ _ _ _ rfl) zm_c_X11_rounded zm_l_X11_112 zm_s_X11_rounded zm_0_X11 zm_d_X11_rounded ⟨rfl, rfl⟩ ⟨Nat.le_of_ble_eq_true rfl, Nat.le_of_ble_eq_true rfl⟩ hl.1 rfl rfl (Nat.le_of_ble_eq_true rfl) dX11_decode_241 ⟨Nat.le_of_ble_eq_true rfl, Nat.le_of_ble_eq_true rfl⟩ (fun H locs w => ?_)
      refine zr_ltl h (fun v17 h => ?_)
      refine lv_ladd C.1 C.2.1 dX11_decode_244 ?_
      refine zr_callSl C w (As := [.long ((S.2 58 (Int32.toNatClampNeg x6)) + v17)]) (zm_X11_cut l G _ _ _ rfl) zm_c_X11_cut zm_l_X11_82 zm_s_X11_cut zm_0_X11 zm_d_X11_cut ⟨rfl, rfl⟩ ⟨Nat.le_of_ble_eq_true rfl, Nat.le_of_ble_eq_true rfl⟩ hl.1 rfl rfl (Nat.le_of_ble_eq_true rfl) dX11_decode_245 ⟨Nat.le_of_ble_eq_true rfl, Nat.le_of_ble_eq_true rfl⟩ (fun H locs w => ?_)
      refine zr_ltl h (fun v18 h => ?_)
      refine zr_last C w 48 (zw_g48 G _) (zw_s48 G _) dX11_decode_248 h (fun S19 H locs w h => ?_)
      obtain ⟨v20, e_, h⟩ := zc_lt_x h
      refine lv_iinc (v := v20) (lv' := [(6, .int v20), (0, .ref (zg_q G 40)), (3, .int f3), (5, .int f5)]) C.1 C.2.1 dX11_decode_249 hl (k := 3) rfl (by subst e_; rfl) (by decide) rfl (fun ls hl => ?_)
      clear e_
      refine lv_goto (tgt := 187) C.1 C.2.1 dX11_decode_252 (by decide) ?_
      exact ih _ _ h _ _ _ w (lv_sub hl [1, 2, 3, 0] rfl)
set_option maxHeartbeats 4000000 in
set_option maxRecDepth 100000 in
theorem zq_X11_decode_166 {p : Program} {l : Launch} {e : Env} {s : State} {m : MethodId} {args : Array Value} {below : List Frame} {meth : Method} {c : Code} {G : zg_T} {Q : State → Prop} (C : zx_C p s m args meth c G RX11 cX11_decode 7) (rec : zs_T → Int32 → Option zs_T) (S : zs_T) (y3 : Int32) (z0 : Int32) (oS : zs_T) (kont : ∀ (H : Heap) (locs : List Loc) (ls : Array Slot), zg_W G oS s H locs → lv_has ls 7 [(0, .ref (zg_q G 40))] → W p l e zr_m_X11_decode s m args below meth c H locs 0 0 Q (F0 m 261 ls [])) (ih : ∀ (S : zs_T) (x3 : Int32), rec S x3 = some oS → ∀ (H : Heap) (locs : List Loc) (ls : Array Slot), zg_W G S s H locs → lv_has ls 7 [(0, .ref (zg_q G 40)), (3, .int x3)] → W p l e zr_m_X11_decode s m args below meth c H locs 0 0 Q (F0 m 123 ls [])) (h : zj_X11_decode_166 rec S y3 z0 = some oS) (H : Heap) (locs : List Loc) (ls : Array Slot) (w : zg_W G S s H locs) (hl : lv_has ls 7 [(0, .ref (zg_q G 40)), (3, .int y3)]) : W p l e zr_m_X11_decode s m args below meth c H locs 0 0 Q (F0 m 166 ls [.int z0, .ref (zg_q G 40)]) := by
  unfold zj_X11_decode_166 at h
  refine zr_put C w 40 zm_w_X11 tyX11 tyX11_ok nmX11 (zw_g40 G _) rfl 16 (by decide) zm_f_X11_35 rfl (ty := .int) (by decide +kernel) rfl rfl (Nat.le_of_ble_eq_true rfl) (zw_f40_16 G _ _) dX11_decode_166 h (fun S13 H locs w h => ?_)
  refine lv_aload_n C.1 C.2.1 dX11_decode_169 rfl (lv_at hl 0 rfl) ?_
  refine lv_iload_n C.1 C.2.1 dX11_decode_170 rfl (lv_at hl 1 rfl) ?_
  obtain ⟨S14, hc, h⟩ := zc_b1_x h
  refine zr_callVv C w 40 (zw_g40 G _) rfl (As := [.int y3]) (zm_X11_makes l G _ _ _ hc) zm_c_X11_makes zm_l_X11_232 zm_i_X11_makes zm_e_X11_makes zm_0_X11 zm_d_X11_makes ⟨rfl, rfl⟩ ⟨Nat.le_of_ble_eq_true rfl, Nat.le_of_ble_eq_true rfl⟩ hl.1 rfl rfl (Nat.le_of_ble_eq_true rfl) dX11_decode_171 ⟨Nat.le_of_ble_eq_true rfl, Nat.le_of_ble_eq_true rfl⟩ (fun H locs w => ?_)
  clear hc
  refine lv_sipush (v := 400) C.1 C.2.1 dX11_decode_174 (by decide) ?_
  refine lv_bipush (v := 40) C.1 C.2.1 dX11_decode_177 (by decide) ?_
  refine lv_iload_n C.1 C.2.1 dX11_decode_179 rfl (lv_at hl 1 rfl) ?_
  refine lv_imul C.1 C.2.1 dX11_decode_180 ?_
  refine lv_iadd C.1 C.2.1 dX11_decode_181 ?_
  refine zr_lti h (fun v15 h => ?_)
  refine lv_istore (lv' := [(5, .int v15), (0, .ref (zg_q G 40)), (3, .int y3)]) C.1 C.2.1 dX11_decode_182 hl (by decide) rfl (fun ls hl => ?_)
  refine lv_iconst (v := 0) C.1 C.2.1 dX11_decode_184 (by decide) ?_
  refine lv_istore (lv' := [(6, .int (0 : Int32)), (5, .int v15), (0, .ref (zg_q G 40)), (3, .int y3)]) C.1 C.2.1 dX11_decode_185 hl (by decide) rfl (fun ls hl => ?_)
  obtain ⟨S21, hc, h⟩ := zc_b1_x h
  refine zk_X11_decode_187 C y3 v15 S21 (fun H locs ls w hl => ?_) _ _ _ hc _ _ _ w (lv_sub hl [2, 3, 1, 0] rfl)
  clear hc
  obtain ⟨v22, e_, h⟩ := zc_lt_x h
  refine lv_iinc (v := v22) (lv' := [(3, .int v22), (0, .ref (zg_q G 40))]) C.1 C.2.1 dX11_decode_255 hl (k := 1) rfl (by subst e_; rfl) (by decide) rfl (fun ls hl => ?_)
  clear e_
  refine lv_goto (tgt := 123) C.1 C.2.1 dX11_decode_258 (by decide) ?_
  exact ih _ _ h _ _ _ w (lv_sub hl [1, 0] rfl)
set_option maxHeartbeats 4000000 in
set_option maxRecDepth 100000 in
theorem zq_X11_decode_162 {p : Program} {l : Launch} {e : Env} {s : State} {m : MethodId} {args : Array Value} {below : List Frame} {meth : Method} {c : Code} {G : zg_T} {Q : State → Prop} (C : zx_C p s m args meth c G RX11 cX11_decode 7) (rec : zs_T → Int32 → Option zs_T) (S : zs_T) (y3 : Int32) (oS : zs_T) (kont : ∀ (H : Heap) (locs : List Loc) (ls : Array Slot), zg_W G oS s H locs → lv_has ls 7 [(0, .ref (zg_q G 40))] → W p l e zr_m_X11_decode s m args below meth c H locs 0 0 Q (F0 m 261 ls [])) (ih : ∀ (S : zs_T) (x3 : Int32), rec S x3 = some oS → ∀ (H : Heap) (locs : List Loc) (ls : Array Slot), zg_W G S s H locs → lv_has ls 7 [(0, .ref (zg_q G 40)), (3, .int x3)] → W p l e zr_m_X11_decode s m args below meth c H locs 0 0 Q (F0 m 123 ls [])) (h : zj_X11_decode_162 rec S y3 = some oS) (H : Heap) (locs : List Loc) (ls : Array Slot) (w : zg_W G S s H locs) (hl : lv_has ls 7 [(0, .ref (zg_q G 40)), (3, .int y3)]) : W p l e zr_m_X11_decode s m args below meth c H locs 0 0 Q (F0 m 162 ls [.ref (zg_q G 40)]) := by
  unfold zj_X11_decode_162 at h
  refine lv_aload_n C.1 C.2.1 dX11_decode_162 rfl (lv_at hl 0 rfl) ?_
  refine zr_get C w 40 zm_w_X11 (zw_g40 G _) rfl 16 (by decide) zm_f_X11_35 rfl dX11_decode_163 ?_
  exact zq_X11_decode_166 C rec _ _ _ _ kont ih h _ _ _ w (lv_sub hl [0, 1] rfl)
set_option maxHeartbeats 4000000 in
set_option maxRecDepth 100000 in
theorem zk_X11_decode_123 {p : Program} {l : Launch} {e : Env} {s : State} {m : MethodId} {args : Array Value} {below : List Frame} {meth : Method} {c : Code} {G : zg_T} {Q : State → Prop} (C : zx_C p s m args meth c G RX11 cX11_decode 7) (oS : zs_T) (kont : ∀ (H : Heap) (locs : List Loc) (ls : Array Slot), zg_W G oS s H locs → lv_has ls 7 [(0, .ref (zg_q G 40))] → W p l e zr_m_X11_decode s m args below meth c H locs 0 0 Q (F0 m 261 ls [])) : ∀ (n : Nat) (S : zs_T) (x3 : Int32), zl_2 (zb_X11_decode_123) n S x3 = some oS → ∀ (H : Heap) (locs : List Loc) (ls : Array Slot), zg_W G S s H locs → lv_has ls 7 [(0, .ref (zg_q G 40)), (3, .int x3)] → W p l e zr_m_X11_decode s m args below meth c H locs 0 0 Q (F0 m 123 ls []) := by
  intro n
  induction n with
  | zero => intro S x3 h; cases h
  | succ n ih =>
    intro S x3 h H locs ls w hl
    replace h : zb_X11_decode_123 (zl_2 (zb_X11_decode_123) n) S x3 = some oS := h
    generalize zl_2 (zb_X11_decode_123) n = rec at ih h
    unfold zb_X11_decode_123 at h
    refine lv_iload_n C.1 C.2.1 dX11_decode_123 rfl (lv_at hl 1 rfl) ?_
    refine lv_iconst (v := 4) C.1 C.2.1 dX11_decode_124 (by decide) ?_
    refine zr_ic_ge (tgt := 261) C dX11_decode_125 (by decide) h (fun h => ?_) (fun h => ?_)
    · cases h
      exact kont _ _ _ w (lv_sub hl [0] rfl)
    · refine lv_aload_n C.1 C.2.1 dX11_decode_128 rfl (lv_at hl 0 rfl) ?_
      refine zr_get C w 40 zm_w_X11 (zw_g40 G _) rfl 5 (by decide) zm_f_X11_17 rfl dX11_decode_129 ?_
      refine lv_bipush (v := 8) C.1 C.2.1 dX11_decode_132 (by decide) ?_
      refine lv_bipush (v := 17) C.1 C.2.1 dX11_decode_134 (by decide) ?_
      refine lv_iload_n C.1 C.2.1 dX11_decode_136 rfl (lv_at hl 1 rfl) ?_
      refine lv_imul C.1 C.2.1 dX11_decode_137 ?_
      refine lv_iadd C.1 C.2.1 dX11_decode_138 ?_
      refine zr_iald C w 43 (zw_g43 G _) dX11_decode_139 h (fun h => ?_)
      refine zr_lti h (fun v12 h => ?_)
      refine lv_istore (lv' := [(4, .int v12), (0, .ref (zg_q G 40)), (3, .int x3)]) C.1 C.2.1 dX11_decode_140 hl (by decide) rfl (fun ls hl => ?_)
      refine lv_aload_n C.1 C.2.1 dX11_decode_142 rfl (lv_at hl 1 rfl) ?_
      refine lv_iload C.1 C.2.1 dX11_decode_143 (lv_at hl 0 rfl) ?_
      refine lv_bipush (v := 39) C.1 C.2.1 dX11_decode_145 (by decide) ?_
      refine zr_ic_le (tgt := 162) C dX11_decode_147 (by decide) h (fun h => ?_) (fun h => ?_)
      · exact zq_X11_decode_162 C rec _ _ _ kont ih h _ _ _ w (lv_sub hl [1, 2] rfl)
      · refine lv_iload C.1 C.2.1 dX11_decode_150 (lv_at hl 0 rfl) ?_
        refine lv_bipush (v := 121) C.1 C.2.1 dX11_decode_152 (by decide) ?_
        refine zr_ic_ge (tgt := 162) C dX11_decode_154 (by decide) h (fun h => ?_) (fun h => ?_)
        · exact zq_X11_decode_162 C rec _ _ _ kont ih h _ _ _ w (lv_sub hl [1, 2] rfl)
        · refine lv_iload C.1 C.2.1 dX11_decode_157 (lv_at hl 0 rfl) ?_
          refine lv_goto (tgt := 166) C.1 C.2.1 dX11_decode_159 (by decide) ?_
          exact zq_X11_decode_166 C rec _ _ _ _ kont ih h _ _ _ w (lv_sub hl [1, 2] rfl)
set_option maxHeartbeats 4000000 in
set_option maxRecDepth 100000 in
theorem zk_X11_decode_319 {p : Program} {l : Launch} {e : Env} {s : State} {m : MethodId} {args : Array Value} {below : List Frame} {meth : Method} {c : Code} {G : zg_T} {Q : State → Prop} (C : zx_C p s m args meth c G RX11 cX11_decode 7) (f3 : Int32) (oS : zs_T) (o4 : Int64) (kont : ∀ (H : Heap) (locs : List Loc) (ls : Array Slot), zg_W G oS s H locs → lv_has ls 7 [(0, .ref (zg_q G 40)), (3, .int f3), (4, .long o4)] → W p l e zr_m_X11_decode s m args below meth c H locs 0 0 Q (F0 m 389 ls [])) : ∀ (n : Nat) (S : zs_T) (x4 : Int64) (x6 : Int32), zl_3 (zb_X11_decode_319) n S x4 x6 = some (oS, o4) → ∀ (H : Heap) (locs : List Loc) (ls : Array Slot), zg_W G S s H locs → lv_has ls 7 [(0, .ref (zg_q G 40)), (3, .int f3), (4, .long x4), (6, .int x6)] → W p l e zr_m_X11_decode s m args below meth c H locs 0 0 Q (F0 m 319 ls []) := by
  intro n
  induction n with
  | zero => intro S x4 x6 h; cases h
  | succ n ih =>
    intro S x4 x6 h H locs ls w hl
    replace h : zb_X11_decode_319 (zl_3 (zb_X11_decode_319) n) S x4 x6 = some (oS, o4) := h
    generalize zl_3 (zb_X11_decode_319) n = rec at ih h
    unfold zb_X11_decode_319 at h
    refine lv_iload C.1 C.2.1 dX11_decode_319 (lv_at hl 3 rfl) ?_
    refine zr_if_le (tgt := 389) C dX11_decode_321 (by decide) h (fun h => ?_) (fun h => ?_)
    · cases h
      exact kont _ _ _ w (lv_sub hl [0, 1, 2] rfl)
    · refine lv_lload C.1 C.2.1 dX11_decode_324 (lv_at hl 2 rfl) ?_
      refine lv_aload_n C.1 C.2.1 dX11_decode_326 rfl (lv_at hl 0 rfl) ?_
      refine zr_get C w 40 zm_w_X11 (zw_g40 G _) rfl 25 (by decide) zm_f_X11_60 rfl dX11_decode_327 ?_
      refine lv_iload C.1 C.2.1 dX11_decode_330 (lv_at hl 3 rfl) ?_
      refine zr_lald C w 56 (zw_g56 G _) dX11_decode_332 h (fun h => ?_)
      refine lv_aload_n C.1 C.2.1 dX11_decode_333 rfl (lv_at hl 0 rfl) ?_
      refine zr_get C w 40 zm_w_X11 (zw_g40 G _) rfl 14 (by decide) zm_f_X11_29 rfl dX11_decode_334 ?_
      refine lv_iload C.1 C.2.1 dX11_decode_337 (lv_at hl 3 rfl) ?_
      refine lv_iconst (v := 1) C.1 C.2.1 dX11_decode_339 (by decide) ?_
      refine lv_isub C.1 C.2.1 dX11_decode_340 ?_
      refine zr_lald C w 47 (zw_g47 G _) dX11_decode_341 h (fun h => ?_)
      refine zr_callSl C w (As := [.long (S.2 56 (Int32.toNatClampNeg x6)), .long (S.2 47 (Int32.toNatClampNeg (x6 - (1 : Int32))))]) (zm_X11_rounded l G _ _ _ _ rfl) zm_c_X11_rounded zm_l_X11_112 zm_s_X11_rounded zm_0_X11 zm_d_X11_rounded ⟨rfl, rfl⟩ ⟨Nat.le_of_ble_eq_true rfl, Nat.le_of_ble_eq_true rfl⟩ hl.1 rfl rfl (Nat.le_of_ble_eq_true rfl) dX11_decode_342 ⟨Nat.le_of_ble_eq_true rfl, Nat.le_of_ble_eq_true rfl⟩ (fun H locs w => ?_)
      refine zr_ltl h (fun v27 h => ?_)
      refine lv_lsub C.1 C.2.1 dX11_decode_345 ?_
      refine zr_callSl C w (As := [.long (x4 - v27)]) (zm_X11_cut l G _ _ _ rfl) zm_c_X11_cut zm_l_X11_82 zm_s_X11_cut zm_0_X11 zm_d_X11_cut ⟨rfl, rfl⟩ ⟨Nat.le_of_ble_eq_true rfl, Nat.le_of_ble_eq_true rfl⟩ hl.1 rfl rfl (Nat.le_of_ble_eq_true rfl) dX11_decode_346 ⟨Nat.le_of_ble_eq_true rfl, Nat.le_of_ble_eq_true rfl⟩ (fun H locs w => ?_)
      refine zr_ltl h (fun v28 h => ?_)
      refine lv_lstore (lv' := [(4, .long v28), (0, .ref (zg_q G 40)), (3, .int f3), (6, .int x6)]) C.1 C.2.1 dX11_decode_349 hl (by decide) rfl (fun ls hl => ?_)
      refine lv_aload_n C.1 C.2.1 dX11_decode_351 rfl (lv_at hl 1 rfl) ?_
      refine zr_get C w 40 zm_w_X11 (zw_g40 G _) rfl 14 (by decide) zm_f_X11_29 rfl dX11_decode_352 ?_
      refine lv_iload C.1 C.2.1 dX11_decode_355 (lv_at hl 3 rfl) ?_
      refine lv_aload_n C.1 C.2.1 dX11_decode_357 rfl (lv_at hl 1 rfl) ?_
      refine zr_get C w 40 zm_w_X11 (zw_g40 G _) rfl 14 (by decide) zm_f_X11_29 rfl dX11_decode_358 ?_
      refine lv_iload C.1 C.2.1 dX11_decode_361 (lv_at hl 3 rfl) ?_
      refine lv_iconst (v := 1) C.1 C.2.1 dX11_decode_363 (by decide) ?_
      refine lv_isub C.1 C.2.1 dX11_decode_364 ?_
      refine zr_lald C w 47 (zw_g47 G _) dX11_decode_365 h (fun h => ?_)
      refine lv_aload_n C.1 C.2.1 dX11_decode_366 rfl (lv_at hl 1 rfl) ?_
      refine zr_get C w 40 zm_w_X11 (zw_g40 G _) rfl 25 (by decide) zm_f_X11_60 rfl dX11_decode_367 ?_
      refine lv_iload C.1 C.2.1 dX11_decode_370 (lv_at hl 3 rfl) ?_
      refine zr_lald C w 56 (zw_g56 G _) dX11_decode_372 h (fun h => ?_)
      refine lv_lload C.1 C.2.1 dX11_decode_373 (lv_at hl 0 rfl) ?_
      refine zr_callSl C w (As := [.long (S.2 56 (Int32.toNatClampNeg x6)), .long v28]) (zm_X11_rounded l G _ _ _ _ rfl) zm_c_X11_rounded zm_l_X11_112 zm_s_X11_rounded zm_0_X11 zm_d_X11_rounded ⟨rfl, rfl⟩ ⟨Nat.le_of_ble_eq_true rfl, Nat.le_of_ble_eq_true rfl⟩ hl.1 rfl rfl (Nat.le_of_ble_eq_true rfl) dX11_decode_375 ⟨Nat.le_of_ble_eq_true rfl, Nat.le_of_ble_eq_true rfl⟩ (fun H locs w => ?_)
      refine zr_ltl h (fun v29 h => ?_)
      refine lv_ladd C.1 C.2.1 dX11_decode_378 ?_
      refine zr_callSl C w (As := [.long ((S.2 47 (Int32.toNatClampNeg (x6 - (1 : Int32)))) + v29)]) (zm_X11_cut l G _ _ _ rfl) zm_c_X11_cut zm_l_X11_82 zm_s_X11_cut zm_0_X11 zm_d_X11_cut ⟨rfl, rfl⟩ ⟨Nat.le_of_ble_eq_true rfl, Nat.le_of_ble_eq_true rfl⟩ hl.1 rfl rfl (Nat.le_of_ble_eq_true rfl) dX11_decode_379 ⟨Nat.le_of_ble_eq_true rfl, Nat.le_of_ble_eq_true rfl⟩ (fun H locs w => ?_)
      refine zr_ltl h (fun v30 h => ?_)
      refine zr_last C w 47 (zw_g47 G _) (zw_s47 G _) dX11_decode_382 h (fun S31 H locs w h => ?_)
      obtain ⟨v32, e_, h⟩ := zc_lt_x h
      refine lv_iinc (v := v32) (lv' := [(6, .int v32), (4, .long v28), (0, .ref (zg_q G 40)), (3, .int f3)]) C.1 C.2.1 dX11_decode_383 hl (k := 3) rfl (by subst e_; rfl) (by decide) rfl (fun ls hl => ?_)
      clear e_
      refine lv_goto (tgt := 319) C.1 C.2.1 dX11_decode_386 (by decide) ?_
      exact ih _ _ _ h _ _ _ w (lv_sub hl [2, 3, 1, 0] rfl)
set_option maxHeartbeats 4000000 in
set_option maxRecDepth 100000 in
theorem zq_X11_decode_303 {p : Program} {l : Launch} {e : Env} {s : State} {m : MethodId} {args : Array Value} {below : List Frame} {meth : Method} {c : Code} {G : zg_T} {Q : State → Prop} (C : zx_C p s m args meth c G RX11 cX11_decode 7) (rec : zs_T → Int32 → Option zs_T) (S : zs_T) (y3 : Int32) (oS : zs_T) (kont : ∀ (H : Heap) (locs : List Loc) (ls : Array Slot), zg_W G oS s H locs → lv_has ls 7 [(0, .ref (zg_q G 40))] → W p l e zr_m_X11_decode s m args below meth c H locs 0 0 Q (F0 m 446 ls [])) (ih : ∀ (S : zs_T) (x3 : Int32), rec S x3 = some oS → ∀ (H : Heap) (locs : List Loc) (ls : Array Slot), zg_W G S s H locs → lv_has ls 7 [(0, .ref (zg_q G 40)), (3, .int x3)] → W p l e zr_m_X11_decode s m args below meth c H locs 0 0 Q (F0 m 267 ls [])) (h : zj_X11_decode_303 rec S y3 = some oS) (H : Heap) (locs : List Loc) (ls : Array Slot) (w : zg_W G S s H locs) (hl : lv_has ls 7 [(0, .ref (zg_q G 40)), (3, .int y3)]) : W p l e zr_m_X11_decode s m args below meth c H locs 0 0 Q (F0 m 303 ls []) := by
  unfold zj_X11_decode_303 at h
  refine lv_aload_n C.1 C.2.1 dX11_decode_303 rfl (lv_at hl 0 rfl) ?_
  refine zr_get C w 40 zm_w_X11 (zw_g40 G _) rfl 15 (by decide) zm_f_X11_32 rfl dX11_decode_304 ?_
  refine lv_sipush (v := 400) C.1 C.2.1 dX11_decode_307 (by decide) ?_
  refine lv_iload_n C.1 C.2.1 dX11_decode_310 rfl (lv_at hl 1 rfl) ?_
  refine lv_iadd C.1 C.2.1 dX11_decode_311 ?_
  refine zr_lald C w 48 (zw_g48 G _) dX11_decode_312 h (fun h => ?_)
  refine zr_ltl h (fun v26 h => ?_)
  refine lv_lstore (lv' := [(4, .long v26), (0, .ref (zg_q G 40)), (3, .int y3)]) C.1 C.2.1 dX11_decode_313 hl (by decide) rfl (fun ls hl => ?_)
  refine lv_bipush (v := 8) C.1 C.2.1 dX11_decode_315 (by decide) ?_
  refine lv_istore (lv' := [(6, .int (8 : Int32)), (4, .long v26), (0, .ref (zg_q G 40)), (3, .int y3)]) C.1 C.2.1 dX11_decode_317 hl (by decide) rfl (fun ls hl => ?_)
  obtain ⟨S33, v34, hc, h⟩ := zc_b2_x h
  refine zk_X11_decode_319 C y3 S33 v34 (fun H locs ls w hl => ?_) _ _ _ _ hc _ _ _ w (lv_sub hl [2, 3, 1, 0] rfl)
  clear hc
  refine lv_aload_n C.1 C.2.1 dX11_decode_389 rfl (lv_at hl 0 rfl) ?_
  refine zr_get C w 40 zm_w_X11 (zw_g40 G _) rfl 14 (by decide) zm_f_X11_29 rfl dX11_decode_390 ?_
  refine lv_iconst (v := 0) C.1 C.2.1 dX11_decode_393 (by decide) ?_
  refine lv_lload C.1 C.2.1 dX11_decode_394 (lv_at hl 2 rfl) ?_
  refine zr_last C w 47 (zw_g47 G _) (zw_s47 G _) dX11_decode_396 h (fun S35 H locs w h => ?_)
  refine lv_aload_n C.1 C.2.1 dX11_decode_397 rfl (lv_at hl 0 rfl) ?_
  refine lv_lload C.1 C.2.1 dX11_decode_398 (lv_at hl 2 rfl) ?_
  refine lv_aload_n C.1 C.2.1 dX11_decode_400 rfl (lv_at hl 0 rfl) ?_
  refine zr_get C w 40 zm_w_X11 (zw_g40 G _) rfl 17 (by decide) zm_f_X11_249 rfl dX11_decode_401 ?_
  refine lv_ldc2 (v := 28180) C.1 C.2.1 C.2.2.2.1 (C.2.2.2.2.1 _ zm_k_X11_252) dX11_decode_404 ?_
  refine zr_callSl C w (As := [.long (S35.2 40 17), .long (28180 : Int64)]) (zm_X11_rounded l G _ _ _ _ rfl) zm_c_X11_rounded zm_l_X11_112 zm_s_X11_rounded zm_0_X11 zm_d_X11_rounded ⟨rfl, rfl⟩ ⟨Nat.le_of_ble_eq_true rfl, Nat.le_of_ble_eq_true rfl⟩ hl.1 rfl rfl (Nat.le_of_ble_eq_true rfl) dX11_decode_407 ⟨Nat.le_of_ble_eq_true rfl, Nat.le_of_ble_eq_true rfl⟩ (fun H locs w => ?_)
  refine zr_ltl h (fun v36 h => ?_)
  refine lv_ladd C.1 C.2.1 dX11_decode_410 ?_
  refine zr_callSl C w (As := [.long (v34 + v36)]) (zm_X11_cut l G _ _ _ rfl) zm_c_X11_cut zm_l_X11_82 zm_s_X11_cut zm_0_X11 zm_d_X11_cut ⟨rfl, rfl⟩ ⟨Nat.le_of_ble_eq_true rfl, Nat.le_of_ble_eq_true rfl⟩ hl.1 rfl rfl (Nat.le_of_ble_eq_true rfl) dX11_decode_411 ⟨Nat.le_of_ble_eq_true rfl, Nat.le_of_ble_eq_true rfl⟩ (fun H locs w => ?_)
  refine zr_ltl h (fun v37 h => ?_)
  refine zr_put C w 40 zm_w_X11 tyX11 tyX11_ok nmX11 (zw_g40 G _) rfl 17 (by decide) zm_f_X11_249 rfl (ty := .long) (by decide +kernel) rfl rfl (Nat.le_of_ble_eq_true rfl) (zw_f40_17 G _ _) dX11_decode_414 h (fun S38 H locs w h => ?_)
  refine lv_aload_n C.1 C.2.1 dX11_decode_417 rfl (lv_at hl 0 rfl) ?_
  refine zr_get C w 40 zm_w_X11 (zw_g40 G _) rfl 6 (by decide) zm_f_X11_20 rfl dX11_decode_418 ?_
  refine lv_iload_n C.1 C.2.1 dX11_decode_421 rfl (lv_at hl 1 rfl) ?_
  refine lv_ldc2 (v := 2) C.1 C.2.1 C.2.2.2.1 (C.2.2.2.2.1 _ zm_k_X11_135) dX11_decode_422 ?_
  refine lv_aload_n C.1 C.2.1 dX11_decode_425 rfl (lv_at hl 0 rfl) ?_
  refine zr_get C w 40 zm_w_X11 (zw_g40 G _) rfl 17 (by decide) zm_f_X11_249 rfl dX11_decode_426 ?_
  refine lv_lmul C.1 C.2.1 dX11_decode_429 ?_
  refine zr_callSl C w (As := [.long ((2 : Int64) * (S38.2 40 17))]) (zm_X11_cut l G _ _ _ rfl) zm_c_X11_cut zm_l_X11_82 zm_s_X11_cut zm_0_X11 zm_d_X11_cut ⟨rfl, rfl⟩ ⟨Nat.le_of_ble_eq_true rfl, Nat.le_of_ble_eq_true rfl⟩ hl.1 rfl rfl (Nat.le_of_ble_eq_true rfl) dX11_decode_430 ⟨Nat.le_of_ble_eq_true rfl, Nat.le_of_ble_eq_true rfl⟩ (fun H locs w => ?_)
  refine zr_ltl h (fun v39 h => ?_)
  refine lv_iconst (v := 3) C.1 C.2.1 dX11_decode_433 (by decide) ?_
  refine lv_lshr C.1 C.2.1 dX11_decode_434 rfl ?_
  refine lv_l2i C.1 C.2.1 dX11_decode_435 rfl ?_
  refine lv_bipush (v := 8) C.1 C.2.1 dX11_decode_436 (by decide) ?_
  refine lv_imul C.1 C.2.1 dX11_decode_438 ?_
  refine zr_iast C w 44 (zw_g44 G _) (zw_s44 G _) dX11_decode_439 h (fun S40 H locs w h => ?_)
  obtain ⟨v41, e_, h⟩ := zc_lt_x h
  refine lv_iinc (v := v41) (lv' := [(3, .int v41), (0, .ref (zg_q G 40)), (4, .long v34)]) C.1 C.2.1 dX11_decode_440 hl (k := 1) rfl (by subst e_; rfl) (by decide) rfl (fun ls hl => ?_)
  clear e_
  refine lv_goto (tgt := 267) C.1 C.2.1 dX11_decode_443 (by decide) ?_
  exact ih _ _ h _ _ _ w (lv_sub hl [1, 0] rfl)
set_option maxHeartbeats 4000000 in
set_option maxRecDepth 100000 in
theorem zq_X11_decode_296 {p : Program} {l : Launch} {e : Env} {s : State} {m : MethodId} {args : Array Value} {below : List Frame} {meth : Method} {c : Code} {G : zg_T} {Q : State → Prop} (C : zx_C p s m args meth c G RX11 cX11_decode 7) (rec : zs_T → Int32 → Option zs_T) (S : zs_T) (y3 : Int32) (oS : zs_T) (kont : ∀ (H : Heap) (locs : List Loc) (ls : Array Slot), zg_W G oS s H locs → lv_has ls 7 [(0, .ref (zg_q G 40))] → W p l e zr_m_X11_decode s m args below meth c H locs 0 0 Q (F0 m 446 ls [])) (ih : ∀ (S : zs_T) (x3 : Int32), rec S x3 = some oS → ∀ (H : Heap) (locs : List Loc) (ls : Array Slot), zg_W G S s H locs → lv_has ls 7 [(0, .ref (zg_q G 40)), (3, .int x3)] → W p l e zr_m_X11_decode s m args below meth c H locs 0 0 Q (F0 m 267 ls [])) (h : zj_X11_decode_296 rec S y3 = some oS) (H : Heap) (locs : List Loc) (ls : Array Slot) (w : zg_W G S s H locs) (hl : lv_has ls 7 [(0, .ref (zg_q G 40)), (3, .int y3)]) : W p l e zr_m_X11_decode s m args below meth c H locs 0 0 Q (F0 m 296 ls []) := by
  unfold zj_X11_decode_296 at h
  refine lv_aload_n C.1 C.2.1 dX11_decode_296 rfl (lv_at hl 0 rfl) ?_
  refine lv_iload_n C.1 C.2.1 dX11_decode_297 rfl (lv_at hl 1 rfl) ?_
  refine lv_bipush (v := 8) C.1 C.2.1 dX11_decode_298 (by decide) ?_
  obtain ⟨S25, hc, h⟩ := zc_b1_x h
  refine zr_callVv C w 40 (zw_g40 G _) rfl (As := [.int y3, .int (8 : Int32)]) (zm_X11_makesR l G _ _ _ _ hc) zm_c_X11_makesR zm_l_X11_167 zm_i_X11_makesR zm_e_X11_makesR zm_0_X11 zm_d_X11_makesR ⟨rfl, rfl⟩ ⟨Nat.le_of_ble_eq_true rfl, Nat.le_of_ble_eq_true rfl⟩ hl.1 rfl rfl (Nat.le_of_ble_eq_true rfl) dX11_decode_300 ⟨Nat.le_of_ble_eq_true rfl, Nat.le_of_ble_eq_true rfl⟩ (fun H locs w => ?_)
  clear hc
  exact zq_X11_decode_303 C rec _ _ _ kont ih h _ _ _ w (lv_sub hl [0, 1] rfl)
set_option maxHeartbeats 4000000 in
set_option maxRecDepth 100000 in
theorem zk_X11_decode_267 {p : Program} {l : Launch} {e : Env} {s : State} {m : MethodId} {args : Array Value} {below : List Frame} {meth : Method} {c : Code} {G : zg_T} {Q : State → Prop} (C : zx_C p s m args meth c G RX11 cX11_decode 7) (oS : zs_T) (kont : ∀ (H : Heap) (locs : List Loc) (ls : Array Slot), zg_W G oS s H locs → lv_has ls 7 [(0, .ref (zg_q G 40))] → W p l e zr_m_X11_decode s m args below meth c H locs 0 0 Q (F0 m 446 ls [])) : ∀ (n : Nat) (S : zs_T) (x3 : Int32), zl_2 (zb_X11_decode_267) n S x3 = some oS → ∀ (H : Heap) (locs : List Loc) (ls : Array Slot), zg_W G S s H locs → lv_has ls 7 [(0, .ref (zg_q G 40)), (3, .int x3)] → W p l e zr_m_X11_decode s m args below meth c H locs 0 0 Q (F0 m 267 ls []) := by
  intro n
  induction n with
  | zero => intro S x3 h; cases h
  | succ n ih =>
    intro S x3 h H locs ls w hl
    replace h : zb_X11_decode_267 (zl_2 (zb_X11_decode_267) n) S x3 = some oS := h
    generalize zl_2 (zb_X11_decode_267) n = rec at ih h
    unfold zb_X11_decode_267 at h
    refine lv_iload_n C.1 C.2.1 dX11_decode_267 rfl (lv_at hl 1 rfl) ?_
    refine lv_sipush (v := 160) C.1 C.2.1 dX11_decode_268 (by decide) ?_
    refine zr_ic_ge (tgt := 446) C dX11_decode_271 (by decide) h (fun h => ?_) (fun h => ?_)
    · cases h
      exact kont _ _ _ w (lv_sub hl [0] rfl)
    · refine lv_iload_n C.1 C.2.1 dX11_decode_274 rfl (lv_at hl 1 rfl) ?_
      refine zr_if_eq (tgt := 296) C dX11_decode_275 (by decide) h (fun h => ?_) (fun h => ?_)
      · exact zq_X11_decode_296 C rec _ _ _ kont ih h _ _ _ w (lv_sub hl [0, 1] rfl)
      · refine lv_iload_n C.1 C.2.1 dX11_decode_278 rfl (lv_at hl 1 rfl) ?_
        refine lv_bipush (v := 13) C.1 C.2.1 dX11_decode_279 (by decide) ?_
        refine zr_ic_eq (tgt := 296) C dX11_decode_281 (by decide) h (fun h => ?_) (fun h => ?_)
        · exact zq_X11_decode_296 C rec _ _ _ kont ih h _ _ _ w (lv_sub hl [0, 1] rfl)
        · refine lv_iload_n C.1 C.2.1 dX11_decode_284 rfl (lv_at hl 1 rfl) ?_
          refine lv_bipush (v := 27) C.1 C.2.1 dX11_decode_285 (by decide) ?_
          refine zr_ic_eq (tgt := 296) C dX11_decode_287 (by decide) h (fun h => ?_) (fun h => ?_)
          · exact zq_X11_decode_296 C rec _ _ _ kont ih h _ _ _ w (lv_sub hl [0, 1] rfl)
          · refine lv_iload_n C.1 C.2.1 dX11_decode_290 rfl (lv_at hl 1 rfl) ?_
            refine lv_bipush (v := 40) C.1 C.2.1 dX11_decode_291 (by decide) ?_
            refine zr_ic_ne (tgt := 303) C dX11_decode_293 (by decide) h (fun h => ?_) (fun h => ?_)
            · exact zq_X11_decode_303 C rec _ _ _ kont ih h _ _ _ w (lv_sub hl [0, 1] rfl)
            · exact zq_X11_decode_296 C rec _ _ _ kont ih h _ _ _ w (lv_sub hl [0, 1] rfl)
set_option maxHeartbeats 4000000 in
set_option maxRecDepth 100000 in
theorem zq_X11_decode_32 {p : Program} {l : Launch} {e : Env} {s : State} {m : MethodId} {args : Array Value} {below : List Frame} {meth : Method} {c : Code} {G : zg_T} (hr : meth.sig.returnType = (some .int)) (C : zx_C p s m args meth c G RX11 cX11_decode 7) (r : Int32) (S1 : zs_T) (S : zs_T) (z0 : Int32) (h : zj_X11_decode_32 S z0 = some (r, S1)) (H : Heap) (locs : List Loc) (ls : Array Slot) (w : zg_W G S s H locs) (hl : lv_has ls 7 [(0, .ref (zg_q G 40))]) : W p l e zr_m_X11_decode s m args below meth c H locs 0 0 (MQ below (zg_Q G (some (.int r)) S1) args s 0 0 (zg_A G)) (F0 m 32 ls [.int z0]) := by
  unfold zj_X11_decode_32 at h
  refine lv_istore_n (lv' := [(1, .int z0), (0, .ref (zg_q G 40))]) C.1 C.2.1 dX11_decode_32 rfl hl (by decide) rfl (fun ls hl => ?_)
  refine lv_aload_n C.1 C.2.1 dX11_decode_33 rfl (lv_at hl 1 rfl) ?_
  refine lv_iconst (v := 0) C.1 C.2.1 dX11_decode_34 (by decide) ?_
  refine zr_put C w 40 zm_w_X11 tyX11 tyX11_ok nmX11 (zw_g40 G _) rfl 3 (by decide) zm_f_X11_241 rfl (ty := .int) (by decide +kernel) rfl rfl (Nat.le_of_ble_eq_true rfl) (zw_f40_3 G _ _) dX11_decode_35 h (fun S2 H locs w h => ?_)
  refine lv_iload_n C.1 C.2.1 dX11_decode_38 rfl (lv_at hl 0 rfl) ?_
  refine zr_if_ne (tgt := 44) C dX11_decode_39 (by decide) h (fun h => ?_) (fun h => ?_)
  · refine lv_iconst (v := 4) C.1 C.2.1 dX11_decode_44 (by decide) ?_
    refine lv_istore_n (lv' := [(2, .int (4 : Int32)), (1, .int z0), (0, .ref (zg_q G 40))]) C.1 C.2.1 dX11_decode_45 rfl hl (by decide) rfl (fun ls hl => ?_)
    refine lv_iconst (v := 0) C.1 C.2.1 dX11_decode_46 (by decide) ?_
    refine lv_istore_n (lv' := [(3, .int (0 : Int32)), (2, .int (4 : Int32)), (1, .int z0), (0, .ref (zg_q G 40))]) C.1 C.2.1 dX11_decode_47 rfl hl (by decide) rfl (fun ls hl => ?_)
    obtain ⟨S11, hc, h⟩ := zc_b1_x h
    refine zk_X11_decode_48 C S11 (fun H locs ls w hl => ?_) _ _ _ _ hc _ _ _ w (lv_sub hl [3, 1, 0] rfl)
    clear hc
    refine lv_iconst (v := 0) C.1 C.2.1 dX11_decode_121 (by decide) ?_
    refine lv_istore_n (lv' := [(3, .int (0 : Int32)), (0, .ref (zg_q G 40))]) C.1 C.2.1 dX11_decode_122 rfl hl (by decide) rfl (fun ls hl => ?_)
    obtain ⟨S23, hc, h⟩ := zc_b1_x h
    refine zk_X11_decode_123 C S23 (fun H locs ls w hl => ?_) _ _ _ hc _ _ _ w (lv_sub hl [1, 0] rfl)
    clear hc
    refine lv_aload_n C.1 C.2.1 dX11_decode_261 rfl (lv_at hl 0 rfl) ?_
    obtain ⟨S24, hc, h⟩ := zc_b1_x h
    refine zr_callVv C w 40 (zw_g40 G _) rfl (As := []) (zm_X11_makesG l G _ _ hc) zm_c_X11_makesG zm_l_X11_211 zm_i_X11_makesG zm_e_X11_makesG zm_0_X11 zm_d_X11_makesG ⟨rfl, rfl⟩ ⟨Nat.le_of_ble_eq_true rfl, Nat.le_of_ble_eq_true rfl⟩ hl.1 rfl rfl (Nat.le_of_ble_eq_true rfl) dX11_decode_262 ⟨Nat.le_of_ble_eq_true rfl, Nat.le_of_ble_eq_true rfl⟩ (fun H locs w => ?_)
    clear hc
    refine lv_iconst (v := 0) C.1 C.2.1 dX11_decode_265 (by decide) ?_
    refine lv_istore_n (lv' := [(3, .int (0 : Int32)), (0, .ref (zg_q G 40))]) C.1 C.2.1 dX11_decode_266 rfl hl (by decide) rfl (fun ls hl => ?_)
    obtain ⟨S42, hc, h⟩ := zc_b1_x h
    refine zk_X11_decode_267 C S42 (fun H locs ls w hl => ?_) _ _ _ hc _ _ _ w (lv_sub hl [1, 0] rfl)
    clear hc
    refine lv_aload_n C.1 C.2.1 dX11_decode_446 rfl (lv_at hl 0 rfl) ?_
    refine lv_bipush (v := 8) C.1 C.2.1 dX11_decode_447 (by decide) ?_
    obtain ⟨S43, hc, h⟩ := zc_b1_x h
    refine zr_callVv C w 40 (zw_g40 G _) rfl (As := [.int (8 : Int32)]) (zm_X11_keepsG l G _ _ _ hc) zm_c_X11_keepsG zm_l_X11_217 zm_i_X11_keepsG zm_e_X11_keepsG zm_0_X11 zm_d_X11_keepsG ⟨rfl, rfl⟩ ⟨Nat.le_of_ble_eq_true rfl, Nat.le_of_ble_eq_true rfl⟩ hl.1 rfl rfl (Nat.le_of_ble_eq_true rfl) dX11_decode_449 ⟨Nat.le_of_ble_eq_true rfl, Nat.le_of_ble_eq_true rfl⟩ (fun H locs w => ?_)
    clear hc
    refine lv_aload_n C.1 C.2.1 dX11_decode_452 rfl (lv_at hl 0 rfl) ?_
    refine lv_sipush (v := 280) C.1 C.2.1 dX11_decode_453 (by decide) ?_
    obtain ⟨S44, hc, h⟩ := zc_b1_x h
    refine zr_callVv C w 40 (zw_g40 G _) rfl (As := [.int (280 : Int32)]) (zm_X11_settles l G _ _ _ hc) zm_c_X11_settles zm_l_X11_235 zm_i_X11_settles zm_e_X11_settles zm_0_X11 zm_d_X11_settles ⟨rfl, rfl⟩ ⟨Nat.le_of_ble_eq_true rfl, Nat.le_of_ble_eq_true rfl⟩ hl.1 rfl rfl (Nat.le_of_ble_eq_true rfl) dX11_decode_456 ⟨Nat.le_of_ble_eq_true rfl, Nat.le_of_ble_eq_true rfl⟩ (fun H locs w => ?_)
    clear hc
    refine lv_aload_n C.1 C.2.1 dX11_decode_459 rfl (lv_at hl 0 rfl) ?_
    refine lv_dup C.1 C.2.1 dX11_decode_460 rfl ?_
    refine zr_get C w 40 zm_w_X11 (zw_g40 G _) rfl 8 (by decide) zm_f_X11_254 rfl dX11_decode_461 ?_
    refine lv_iconst (v := 1) C.1 C.2.1 dX11_decode_464 (by decide) ?_
    refine lv_iadd C.1 C.2.1 dX11_decode_465 ?_
    refine zr_put C w 40 zm_w_X11 tyX11 tyX11_ok nmX11 (zw_g40 G _) rfl 8 (by decide) zm_f_X11_254 rfl (ty := .int) (by decide +kernel) rfl rfl (Nat.le_of_ble_eq_true rfl) (zw_f40_8 G _ _) dX11_decode_466 h (fun S45 H locs w h => ?_)
    refine lv_aload_n C.1 C.2.1 dX11_decode_469 rfl (lv_at hl 0 rfl) ?_
    refine zr_get C w 40 zm_w_X11 (zw_g40 G _) rfl 8 (by decide) zm_f_X11_254 rfl dX11_decode_470 ?_
    exact zr_reti C w hr dX11_decode_473 (congrArg Prod.fst (Option.some.inj h)) (congrArg Prod.snd (Option.some.inj h))
  · refine lv_iconst (v := -1) C.1 C.2.1 dX11_decode_42 (by decide) ?_
    exact zr_reti C w hr dX11_decode_43 (congrArg Prod.fst (Option.some.inj h)) (congrArg Prod.snd (Option.some.inj h))
set_option maxHeartbeats 4000000 in
set_option maxRecDepth 100000 in
theorem zq_X11_decode_31 {p : Program} {l : Launch} {e : Env} {s : State} {m : MethodId} {args : Array Value} {below : List Frame} {meth : Method} {c : Code} {G : zg_T} (hr : meth.sig.returnType = (some .int)) (C : zx_C p s m args meth c G RX11 cX11_decode 7) (r : Int32) (S1 : zs_T) (S : zs_T) (h : zj_X11_decode_31 S = some (r, S1)) (H : Heap) (locs : List Loc) (ls : Array Slot) (w : zg_W G S s H locs) (hl : lv_has ls 7 [(0, .ref (zg_q G 40))]) : W p l e zr_m_X11_decode s m args below meth c H locs 0 0 (MQ below (zg_Q G (some (.int r)) S1) args s 0 0 (zg_A G)) (F0 m 31 ls []) := by
  unfold zj_X11_decode_31 at h
  refine lv_iconst (v := 0) C.1 C.2.1 dX11_decode_31 (by decide) ?_
  exact zq_X11_decode_32 hr C _ _ _ _ h _ _ _ w (lv_sub hl [0] rfl)
set_option maxHeartbeats 4000000 in
set_option maxRecDepth 100000 in
theorem zm_X11_decode (l : Launch) (G : zg_T) (S : zs_T) (r : Int32) (S1 : zs_T) (h : zf_X11_decode S = some (r, S1)) : Met l yX11_decode (Cond.code yX11_decode cX11_decode 7 (some .int) :: zt_G) zr_m_X11_decode (va_Pc [.ref (zg_q G 40)] (zg_P G S)) (zg_Q G (some (.int r)) S1) 0 0 (zg_A G) := by
  refine zx_met (by decide +kernel) (Nat.le_of_ble_eq_true rfl) (lv := [(0, .ref (zg_q G 40))]) rfl ?_
  intro p e s m below meth c C hr w ls hl
  replace C : zx_C p s m _ meth c G RX11 cX11_decode 7 := C
  unfold zf_X11_decode at h
  refine lv_aload_n C.1 C.2.1 dX11_decode_0 rfl (lv_at hl 0 rfl) ?_
  refine lv_iconst (v := 0) C.1 C.2.1 dX11_decode_1 (by decide) ?_
  refine zr_put C w 40 zm_w_X11 tyX11 tyX11_ok nmX11 (zw_g40 G _) rfl 0 (by decide) zm_f_X11_69 rfl (ty := .int) (by decide +kernel) rfl rfl (Nat.le_of_ble_eq_true rfl) (zw_f40_0 G _ _) dX11_decode_2 h (fun S1 H locs w h => ?_)
  refine lv_aload_n C.1 C.2.1 dX11_decode_5 rfl (lv_at hl 0 rfl) ?_
  refine zr_get C w 40 zm_w_X11 (zw_g40 G _) rfl 3 (by decide) zm_f_X11_241 rfl dX11_decode_6 ?_
  refine lv_bipush (v := 33) C.1 C.2.1 dX11_decode_9 (by decide) ?_
  refine zr_ic_ne (tgt := 31) C dX11_decode_11 (by decide) h (fun h => ?_) (fun h => ?_)
  · exact zq_X11_decode_31 hr C _ _ _ h _ _ _ w (lv_sub hl [0] rfl)
  · refine lv_aload_n C.1 C.2.1 dX11_decode_14 rfl (lv_at hl 0 rfl) ?_
    refine zr_get C w 40 zm_w_X11 (zw_g40 G _) rfl 4 (by decide) zm_f_X11_13 rfl dX11_decode_15 ?_
    refine lv_iconst (v := 0) C.1 C.2.1 dX11_decode_18 (by decide) ?_
    refine zr_iald C w 42 (zw_g42 G _) dX11_decode_19 h (fun h => ?_)
    refine lv_iconst (v := 4) C.1 C.2.1 dX11_decode_20 (by decide) ?_
    refine lv_ishr C.1 C.2.1 dX11_decode_21 ?_
    refine lv_bipush (v := 13) C.1 C.2.1 dX11_decode_22 (by decide) ?_
    refine zr_ic_ne (tgt := 31) C dX11_decode_24 (by decide) h (fun h => ?_) (fun h => ?_)
    · exact zq_X11_decode_31 hr C _ _ _ h _ _ _ w (lv_sub hl [0] rfl)
    · refine lv_iconst (v := 1) C.1 C.2.1 dX11_decode_27 (by decide) ?_
      refine lv_goto (tgt := 32) C.1 C.2.1 dX11_decode_28 (by decide) ?_
      exact zq_X11_decode_32 hr C _ _ _ _ h _ _ _ w (lv_sub hl [0] rfl)
set_option maxHeartbeats 4000000 in
set_option maxRecDepth 100000 in
theorem zq_X11_sample_17 {p : Program} {l : Launch} {e : Env} {s : State} {m : MethodId} {args : Array Value} {below : List Frame} {meth : Method} {c : Code} {G : zg_T} (hr : meth.sig.returnType = (some .int)) (C : zx_C p s m args meth c G RX11 cX11_sample 2) (r : Int32) (S1 : zs_T) (S : zs_T) (y1 : Int32) (z0 : Int32) (h : zj_X11_sample_17 S y1 z0 = some (r, S1)) (H : Heap) (locs : List Loc) (ls : Array Slot) (w : zg_W G S s H locs) (hl : lv_has ls 2 [(0, .ref (zg_q G 40)), (1, .int y1)]) : W p l e zr_m_X11_sample s m args below meth c H locs 0 0 (MQ below (zg_Q G (some (.int r)) S1) args s 0 0 (zg_A G)) (F0 m 17 ls [.int z0, .ref (zg_q G 40)]) := by
  unfold zj_X11_sample_17 at h
  obtain ⟨v1, S2, hc, h⟩ := zc_b2_x h
  refine zr_callVi C w 40 (zw_g40 G _) rfl (As := [.int z0]) (zm_X11_refuses l G _ _ _ _ hc) zm_c_X11_refuses zm_l_X11_91 zm_i_X11_refuses zm_e_X11_refuses zm_0_X11 zm_d_X11_refuses ⟨rfl, rfl⟩ ⟨Nat.le_of_ble_eq_true rfl, Nat.le_of_ble_eq_true rfl⟩ hl.1 rfl rfl (Nat.le_of_ble_eq_true rfl) dX11_sample_17 ⟨Nat.le_of_ble_eq_true rfl, Nat.le_of_ble_eq_true rfl⟩ (fun H locs w => ?_)
  clear hc
  refine zr_if_eq (tgt := 27) C dX11_sample_20 (by decide) h (fun h => ?_) (fun h => ?_)
  · refine lv_aload_n C.1 C.2.1 dX11_sample_27 rfl (lv_at hl 0 rfl) ?_
    refine zr_get C w 40 zm_w_X11 (zw_g40 G _) rfl 6 (by decide) zm_f_X11_20 rfl dX11_sample_28 ?_
    refine lv_iload_n C.1 C.2.1 dX11_sample_31 rfl (lv_at hl 1 rfl) ?_
    refine zr_iald C w 44 (zw_g44 G _) dX11_sample_32 h (fun h => ?_)
    exact zr_reti C w hr dX11_sample_33 (congrArg Prod.fst (Option.some.inj h)) (congrArg Prod.snd (Option.some.inj h))
  · refine lv_iconst (v := 0) C.1 C.2.1 dX11_sample_23 (by decide) ?_
    refine lv_goto (tgt := 33) C.1 C.2.1 dX11_sample_24 (by decide) ?_
    exact zr_reti C w hr dX11_sample_33 (congrArg Prod.fst (Option.some.inj h)) (congrArg Prod.snd (Option.some.inj h))
set_option maxHeartbeats 4000000 in
set_option maxRecDepth 100000 in
theorem zq_X11_sample_12 {p : Program} {l : Launch} {e : Env} {s : State} {m : MethodId} {args : Array Value} {below : List Frame} {meth : Method} {c : Code} {G : zg_T} (hr : meth.sig.returnType = (some .int)) (C : zx_C p s m args meth c G RX11 cX11_sample 2) (r : Int32) (S1 : zs_T) (S : zs_T) (y1 : Int32) (h : zj_X11_sample_12 S y1 = some (r, S1)) (H : Heap) (locs : List Loc) (ls : Array Slot) (w : zg_W G S s H locs) (hl : lv_has ls 2 [(0, .ref (zg_q G 40)), (1, .int y1)]) : W p l e zr_m_X11_sample s m args below meth c H locs 0 0 (MQ below (zg_Q G (some (.int r)) S1) args s 0 0 (zg_A G)) (F0 m 12 ls [.ref (zg_q G 40)]) := by
  unfold zj_X11_sample_12 at h
  refine lv_iconst (v := 1) C.1 C.2.1 dX11_sample_12 (by decide) ?_
  refine lv_goto (tgt := 17) C.1 C.2.1 dX11_sample_13 (by decide) ?_
  exact zq_X11_sample_17 hr C _ _ _ _ _ h _ _ _ w (lv_sub hl [0, 1] rfl)
set_option maxHeartbeats 4000000 in
set_option maxRecDepth 100000 in
theorem zm_X11_sample (l : Launch) (G : zg_T) (S : zs_T) (a1 : Int32) (r : Int32) (S1 : zs_T) (h : zf_X11_sample S a1 = some (r, S1)) : Met l yX11_sample (Cond.code yX11_sample cX11_sample 2 (some .int) :: zt_G) zr_m_X11_sample (va_Pc [.ref (zg_q G 40), .int a1] (zg_P G S)) (zg_Q G (some (.int r)) S1) 0 0 (zg_A G) := by
  refine zx_met (by decide +kernel) (Nat.le_of_ble_eq_true rfl) (lv := [(0, .ref (zg_q G 40)), (1, .int a1)]) rfl ?_
  intro p e s m below meth c C hr w ls hl
  replace C : zx_C p s m _ meth c G RX11 cX11_sample 2 := C
  unfold zf_X11_sample at h
  refine lv_aload_n C.1 C.2.1 dX11_sample_0 rfl (lv_at hl 0 rfl) ?_
  refine lv_iload_n C.1 C.2.1 dX11_sample_1 rfl (lv_at hl 1 rfl) ?_
  refine zr_if_lt (tgt := 12) C dX11_sample_2 (by decide) h (fun h => ?_) (fun h => ?_)
  · exact zq_X11_sample_12 hr C _ _ _ _ h _ _ _ w (lv_sub hl [0, 1] rfl)
  · refine lv_iload_n C.1 C.2.1 dX11_sample_5 rfl (lv_at hl 1 rfl) ?_
    refine lv_sipush (v := 159) C.1 C.2.1 dX11_sample_6 (by decide) ?_
    refine zr_ic_le (tgt := 16) C dX11_sample_9 (by decide) h (fun h => ?_) (fun h => ?_)
    · refine lv_iconst (v := 0) C.1 C.2.1 dX11_sample_16 (by decide) ?_
      exact zq_X11_sample_17 hr C _ _ _ _ _ h _ _ _ w (lv_sub hl [0, 1] rfl)
    · exact zq_X11_sample_12 hr C _ _ _ _ h _ _ _ w (lv_sub hl [0, 1] rfl)
set_option maxHeartbeats 4000000 in
set_option maxRecDepth 100000 in
theorem zk_X11_clears_5 {p : Program} {l : Launch} {e : Env} {s : State} {m : MethodId} {args : Array Value} {below : List Frame} {meth : Method} {c : Code} {G : zg_T} {Q : State → Prop} (C : zx_C p s m args meth c G RX11 cX11_clears 3) (f1 : Int32) (oS : zs_T) (kont : ∀ (H : Heap) (locs : List Loc) (ls : Array Slot), zg_W G oS s H locs → lv_has ls 3 [(0, .ref (zg_q G 40)), (1, .int f1)] → W p l e zr_m_X11_clears s m args below meth c H locs 0 0 Q (F0 m 29 ls [])) : ∀ (n : Nat) (S : zs_T) (x2 : Int32), zl_2 (zb_X11_clears_5 f1) n S x2 = some oS → ∀ (H : Heap) (locs : List Loc) (ls : Array Slot), zg_W G S s H locs → lv_has ls 3 [(0, .ref (zg_q G 40)), (1, .int f1), (2, .int x2)] → W p l e zr_m_X11_clears s m args below meth c H locs 0 0 Q (F0 m 5 ls []) := by
  intro n
  induction n with
  | zero => intro S x2 h; cases h
  | succ n ih =>
    intro S x2 h H locs ls w hl
    replace h : zb_X11_clears_5 f1 (zl_2 (zb_X11_clears_5 f1) n) S x2 = some oS := h
    generalize zl_2 (zb_X11_clears_5 f1) n = rec at ih h
    unfold zb_X11_clears_5 at h
    refine lv_iload_n C.1 C.2.1 dX11_clears_5 rfl (lv_at hl 2 rfl) ?_
    refine lv_bipush (v := 8) C.1 C.2.1 dX11_clears_6 (by decide) ?_
    refine lv_iload_n C.1 C.2.1 dX11_clears_8 rfl (lv_at hl 1 rfl) ?_
    refine lv_imul C.1 C.2.1 dX11_clears_9 ?_
    refine lv_bipush (v := 8) C.1 C.2.1 dX11_clears_10 (by decide) ?_
    refine lv_iadd C.1 C.2.1 dX11_clears_12 ?_
    refine zr_ic_ge (tgt := 29) C dX11_clears_13 (by decide) h (fun h => ?_) (fun h => ?_)
    · cases h
      exact kont _ _ _ w (lv_sub hl [0, 1] rfl)
    · refine lv_aload_n C.1 C.2.1 dX11_clears_16 rfl (lv_at hl 0 rfl) ?_
      refine zr_get C w 40 zm_w_X11 (zw_g40 G _) rfl 12 (by decide) zm_f_X11_23 rfl dX11_clears_17 ?_
      refine lv_iload_n C.1 C.2.1 dX11_clears_20 rfl (lv_at hl 2 rfl) ?_
      refine lv_lconst (v := 0) C.1 C.2.1 dX11_clears_21 (by decide) ?_
      refine zr_last C w 45 (zw_g45 G _) (zw_s45 G _) dX11_clears_22 h (fun S2 H locs w h => ?_)
      obtain ⟨v3, e_, h⟩ := zc_lt_x h
      refine lv_iinc (v := v3) (lv' := [(2, .int v3), (0, .ref (zg_q G 40)), (1, .int f1)]) C.1 C.2.1 dX11_clears_23 hl (k := 2) rfl (by subst e_; rfl) (by decide) rfl (fun ls hl => ?_)
      clear e_
      refine lv_goto (tgt := 5) C.1 C.2.1 dX11_clears_26 (by decide) ?_
      exact ih _ _ h _ _ _ w (lv_sub hl [1, 2, 0] rfl)
set_option maxHeartbeats 4000000 in
set_option maxRecDepth 100000 in
theorem zk_X11_clears_35 {p : Program} {l : Launch} {e : Env} {s : State} {m : MethodId} {args : Array Value} {below : List Frame} {meth : Method} {c : Code} {G : zg_T} {Q : State → Prop} (C : zx_C p s m args meth c G RX11 cX11_clears 3) (f1 : Int32) (oS : zs_T) (kont : ∀ (H : Heap) (locs : List Loc) (ls : Array Slot), zg_W G oS s H locs → lv_has ls 3 [] → W p l e zr_m_X11_clears s m args below meth c H locs 0 0 Q (F0 m 61 ls [])) : ∀ (n : Nat) (S : zs_T) (x2 : Int32), zl_2 (zb_X11_clears_35 f1) n S x2 = some oS → ∀ (H : Heap) (locs : List Loc) (ls : Array Slot), zg_W G S s H locs → lv_has ls 3 [(0, .ref (zg_q G 40)), (1, .int f1), (2, .int x2)] → W p l e zr_m_X11_clears s m args below meth c H locs 0 0 Q (F0 m 35 ls []) := by
  intro n
  induction n with
  | zero => intro S x2 h; cases h
  | succ n ih =>
    intro S x2 h H locs ls w hl
    replace h : zb_X11_clears_35 f1 (zl_2 (zb_X11_clears_35 f1) n) S x2 = some oS := h
    generalize zl_2 (zb_X11_clears_35 f1) n = rec at ih h
    unfold zb_X11_clears_35 at h
    refine lv_iload_n C.1 C.2.1 dX11_clears_35 rfl (lv_at hl 2 rfl) ?_
    refine lv_sipush (v := 280) C.1 C.2.1 dX11_clears_36 (by decide) ?_
    refine lv_iload_n C.1 C.2.1 dX11_clears_39 rfl (lv_at hl 1 rfl) ?_
    refine lv_imul C.1 C.2.1 dX11_clears_40 ?_
    refine lv_sipush (v := 280) C.1 C.2.1 dX11_clears_41 (by decide) ?_
    refine lv_iadd C.1 C.2.1 dX11_clears_44 ?_
    refine zr_ic_ge (tgt := 61) C dX11_clears_45 (by decide) h (fun h => ?_) (fun h => ?_)
    · cases h
      exact kont _ _ _ w (lv_sub hl [] rfl)
    · refine lv_aload_n C.1 C.2.1 dX11_clears_48 rfl (lv_at hl 0 rfl) ?_
      refine zr_get C w 40 zm_w_X11 (zw_g40 G _) rfl 15 (by decide) zm_f_X11_32 rfl dX11_clears_49 ?_
      refine lv_iload_n C.1 C.2.1 dX11_clears_52 rfl (lv_at hl 2 rfl) ?_
      refine lv_lconst (v := 0) C.1 C.2.1 dX11_clears_53 (by decide) ?_
      refine zr_last C w 48 (zw_g48 G _) (zw_s48 G _) dX11_clears_54 h (fun S6 H locs w h => ?_)
      obtain ⟨v7, e_, h⟩ := zc_lt_x h
      refine lv_iinc (v := v7) (lv' := [(2, .int v7), (0, .ref (zg_q G 40)), (1, .int f1)]) C.1 C.2.1 dX11_clears_55 hl (k := 2) rfl (by subst e_; rfl) (by decide) rfl (fun ls hl => ?_)
      clear e_
      refine lv_goto (tgt := 35) C.1 C.2.1 dX11_clears_58 (by decide) ?_
      exact ih _ _ h _ _ _ w (lv_sub hl [1, 2, 0] rfl)
set_option maxHeartbeats 4000000 in
set_option maxRecDepth 100000 in
theorem zm_X11_clears (l : Launch) (G : zg_T) (S : zs_T) (a1 : Int32) (S1 : zs_T) (h : zf_X11_clears S a1 = some S1) : Met l yX11_clears (Cond.code yX11_clears cX11_clears 3 none :: zt_G) zr_m_X11_clears (va_Pc [.ref (zg_q G 40), .int a1] (zg_P G S)) (zg_Q G none S1) 0 0 (zg_A G) := by
  refine zx_met (by decide +kernel) (Nat.le_of_ble_eq_true rfl) (lv := [(0, .ref (zg_q G 40)), (1, .int a1)]) rfl ?_
  intro p e s m below meth c C hr w ls hl
  replace C : zx_C p s m _ meth c G RX11 cX11_clears 3 := C
  unfold zf_X11_clears at h
  refine lv_bipush (v := 8) C.1 C.2.1 dX11_clears_0 (by decide) ?_
  refine lv_iload_n C.1 C.2.1 dX11_clears_2 rfl (lv_at hl 1 rfl) ?_
  refine lv_imul C.1 C.2.1 dX11_clears_3 ?_
  refine zr_lti h (fun v1 h => ?_)
  refine lv_istore_n (lv' := [(2, .int v1), (0, .ref (zg_q G 40)), (1, .int a1)]) C.1 C.2.1 dX11_clears_4 rfl hl (by decide) rfl (fun ls hl => ?_)
  obtain ⟨S4, hc, h⟩ := zc_b1_x h
  refine zk_X11_clears_5 C a1 S4 (fun H locs ls w hl => ?_) _ _ _ hc _ _ _ w (lv_sub hl [1, 2, 0] rfl)
  clear hc
  refine lv_sipush (v := 280) C.1 C.2.1 dX11_clears_29 (by decide) ?_
  refine lv_iload_n C.1 C.2.1 dX11_clears_32 rfl (lv_at hl 1 rfl) ?_
  refine lv_imul C.1 C.2.1 dX11_clears_33 ?_
  refine zr_lti h (fun v5 h => ?_)
  refine lv_istore_n (lv' := [(2, .int v5), (0, .ref (zg_q G 40)), (1, .int a1)]) C.1 C.2.1 dX11_clears_34 rfl hl (by decide) rfl (fun ls hl => ?_)
  obtain ⟨S8, hc, h⟩ := zc_b1_x h
  refine zk_X11_clears_35 C a1 S8 (fun H locs ls w hl => ?_) _ _ _ hc _ _ _ w (lv_sub hl [1, 2, 0] rfl)
  clear hc
  exact zr_retv C w hr dX11_clears_61 (Option.some.inj h)
set_option maxHeartbeats 4000000 in
set_option maxRecDepth 100000 in
theorem zk_X11_reset_136 {p : Program} {l : Launch} {e : Env} {s : State} {m : MethodId} {args : Array Value} {below : List Frame} {meth : Method} {c : Code} {G : zg_T} {Q : State → Prop} (C : zx_C p s m args meth c G RX11 cX11_reset 3) (oS : zs_T) (kont : ∀ (H : Heap) (locs : List Loc) (ls : Array Slot), zg_W G oS s H locs → lv_has ls 3 [(0, .ref (zg_q G 40))] → W p l e zr_m_X11_reset s m args below meth c H locs 0 0 Q (F0 m 155 ls [])) : ∀ (n : Nat) (S : zs_T) (x2 : Int32), zl_2 (zb_X11_reset_136) n S x2 = some oS → ∀ (H : Heap) (locs : List Loc) (ls : Array Slot), zg_W G S s H locs → lv_has ls 3 [(0, .ref (zg_q G 40)), (2, .int x2)] → W p l e zr_m_X11_reset s m args below meth c H locs 0 0 Q (F0 m 136 ls []) := by
  intro n
  induction n with
  | zero => intro S x2 h; cases h
  | succ n ih =>
    intro S x2 h H locs ls w hl
    replace h : zb_X11_reset_136 (zl_2 (zb_X11_reset_136) n) S x2 = some oS := h
    generalize zl_2 (zb_X11_reset_136) n = rec at ih h
    unfold zb_X11_reset_136 at h
    refine lv_iload_n C.1 C.2.1 dX11_reset_136 rfl (lv_at hl 1 rfl) ?_
    refine lv_bipush (v := 76) C.1 C.2.1 dX11_reset_137 (by decide) ?_
    refine zr_ic_ge (tgt := 155) C dX11_reset_139 (by decide) h (fun h => ?_) (fun h => ?_)
    · cases h
      exact kont _ _ _ w (lv_sub hl [0] rfl)
    · refine lv_aload_n C.1 C.2.1 dX11_reset_142 rfl (lv_at hl 0 rfl) ?_
      refine zr_get C w 40 zm_w_X11 (zw_g40 G _) rfl 5 (by decide) zm_f_X11_17 rfl dX11_reset_143 ?_
      refine lv_iload_n C.1 C.2.1 dX11_reset_146 rfl (lv_at hl 1 rfl) ?_
      refine lv_iconst (v := 0) C.1 C.2.1 dX11_reset_147 (by decide) ?_
      refine zr_iast C w 43 (zw_g43 G _) (zw_s43 G _) dX11_reset_148 h (fun S5 H locs w h => ?_)
      obtain ⟨v6, e_, h⟩ := zc_lt_x h
      refine lv_iinc (v := v6) (lv' := [(2, .int v6), (0, .ref (zg_q G 40))]) C.1 C.2.1 dX11_reset_149 hl (k := 1) rfl (by subst e_; rfl) (by decide) rfl (fun ls hl => ?_)
      clear e_
      refine lv_goto (tgt := 136) C.1 C.2.1 dX11_reset_152 (by decide) ?_
      exact ih _ _ h _ _ _ w (lv_sub hl [1, 0] rfl)
set_option maxHeartbeats 4000000 in
set_option maxRecDepth 100000 in
theorem zk_X11_reset_157 {p : Program} {l : Launch} {e : Env} {s : State} {m : MethodId} {args : Array Value} {below : List Frame} {meth : Method} {c : Code} {G : zg_T} {Q : State → Prop} (C : zx_C p s m args meth c G RX11 cX11_reset 3) (oS : zs_T) (kont : ∀ (H : Heap) (locs : List Loc) (ls : Array Slot), zg_W G oS s H locs → lv_has ls 3 [] → W p l e zr_m_X11_reset s m args below meth c H locs 0 0 Q (F0 m 177 ls [])) : ∀ (n : Nat) (S : zs_T) (x2 : Int32), zl_2 (zb_X11_reset_157) n S x2 = some oS → ∀ (H : Heap) (locs : List Loc) (ls : Array Slot), zg_W G S s H locs → lv_has ls 3 [(0, .ref (zg_q G 40)), (2, .int x2)] → W p l e zr_m_X11_reset s m args below meth c H locs 0 0 Q (F0 m 157 ls []) := by
  intro n
  induction n with
  | zero => intro S x2 h; cases h
  | succ n ih =>
    intro S x2 h H locs ls w hl
    replace h : zb_X11_reset_157 (zl_2 (zb_X11_reset_157) n) S x2 = some oS := h
    generalize zl_2 (zb_X11_reset_157) n = rec at ih h
    unfold zb_X11_reset_157 at h
    refine lv_iload_n C.1 C.2.1 dX11_reset_157 rfl (lv_at hl 1 rfl) ?_
    refine lv_sipush (v := 160) C.1 C.2.1 dX11_reset_158 (by decide) ?_
    refine zr_ic_ge (tgt := 177) C dX11_reset_161 (by decide) h (fun h => ?_) (fun h => ?_)
    · cases h
      exact kont _ _ _ w (lv_sub hl [] rfl)
    · refine lv_aload_n C.1 C.2.1 dX11_reset_164 rfl (lv_at hl 0 rfl) ?_
      refine zr_get C w 40 zm_w_X11 (zw_g40 G _) rfl 6 (by decide) zm_f_X11_20 rfl dX11_reset_165 ?_
      refine lv_iload_n C.1 C.2.1 dX11_reset_168 rfl (lv_at hl 1 rfl) ?_
      refine lv_iconst (v := 0) C.1 C.2.1 dX11_reset_169 (by decide) ?_
      refine zr_iast C w 44 (zw_g44 G _) (zw_s44 G _) dX11_reset_170 h (fun S8 H locs w h => ?_)
      obtain ⟨v9, e_, h⟩ := zc_lt_x h
      refine lv_iinc (v := v9) (lv' := [(2, .int v9), (0, .ref (zg_q G 40))]) C.1 C.2.1 dX11_reset_171 hl (k := 1) rfl (by subst e_; rfl) (by decide) rfl (fun ls hl => ?_)
      clear e_
      refine lv_goto (tgt := 157) C.1 C.2.1 dX11_reset_174 (by decide) ?_
      exact ih _ _ h _ _ _ w (lv_sub hl [1, 0] rfl)
set_option maxHeartbeats 4000000 in
set_option maxRecDepth 100000 in
theorem zq_X11_reset_119 {p : Program} {l : Launch} {e : Env} {s : State} {m : MethodId} {args : Array Value} {below : List Frame} {meth : Method} {c : Code} {G : zg_T} (hr : meth.sig.returnType = none) (C : zx_C p s m args meth c G RX11 cX11_reset 3) (S1 : zs_T) (S : zs_T) (y1 : Int32) (h : zj_X11_reset_119 S y1 = some S1) (H : Heap) (locs : List Loc) (ls : Array Slot) (w : zg_W G S s H locs) (hl : lv_has ls 3 [(0, .ref (zg_q G 40)), (1, .int y1)]) : W p l e zr_m_X11_reset s m args below meth c H locs 0 0 (MQ below (zg_Q G none S1) args s 0 0 (zg_A G)) (F0 m 119 ls []) := by
  unfold zj_X11_reset_119 at h
  refine lv_iload_n C.1 C.2.1 dX11_reset_119 rfl (lv_at hl 1 rfl) ?_
  refine lv_iconst (v := 2) C.1 C.2.1 dX11_reset_120 (by decide) ?_
  refine zr_ic_ne (tgt := 177) C dX11_reset_121 (by decide) h (fun h => ?_) (fun h => ?_)
  · exact zr_retv C w hr dX11_reset_177 (Option.some.inj h)
  · refine lv_aload_n C.1 C.2.1 dX11_reset_124 rfl (lv_at hl 0 rfl) ?_
    refine lv_iconst (v := 0) C.1 C.2.1 dX11_reset_125 (by decide) ?_
    refine zr_put C w 40 zm_w_X11 tyX11 tyX11_ok nmX11 (zw_g40 G _) rfl 1 (by decide) zm_f_X11_88 rfl (ty := .int) (by decide +kernel) rfl rfl (Nat.le_of_ble_eq_true rfl) (zw_f40_1 G _ _) dX11_reset_126 h (fun S3 H locs w h => ?_)
    refine lv_aload_n C.1 C.2.1 dX11_reset_129 rfl (lv_at hl 0 rfl) ?_
    refine lv_iconst (v := 0) C.1 C.2.1 dX11_reset_130 (by decide) ?_
    refine zr_put C w 40 zm_w_X11 tyX11 tyX11_ok nmX11 (zw_g40 G _) rfl 3 (by decide) zm_f_X11_241 rfl (ty := .int) (by decide +kernel) rfl rfl (Nat.le_of_ble_eq_true rfl) (zw_f40_3 G _ _) dX11_reset_131 h (fun S4 H locs w h => ?_)
    refine lv_iconst (v := 0) C.1 C.2.1 dX11_reset_134 (by decide) ?_
    refine lv_istore_n (lv' := [(2, .int (0 : Int32)), (0, .ref (zg_q G 40)), (1, .int y1)]) C.1 C.2.1 dX11_reset_135 rfl hl (by decide) rfl (fun ls hl => ?_)
    obtain ⟨S7, hc, h⟩ := zc_b1_x h
    refine zk_X11_reset_136 C S7 (fun H locs ls w hl => ?_) _ _ _ hc _ _ _ w (lv_sub hl [1, 0] rfl)
    clear hc
    refine lv_iconst (v := 0) C.1 C.2.1 dX11_reset_155 (by decide) ?_
    refine lv_istore_n (lv' := [(2, .int (0 : Int32)), (0, .ref (zg_q G 40))]) C.1 C.2.1 dX11_reset_156 rfl hl (by decide) rfl (fun ls hl => ?_)
    obtain ⟨S10, hc, h⟩ := zc_b1_x h
    refine zk_X11_reset_157 C S10 (fun H locs ls w hl => ?_) _ _ _ hc _ _ _ w (lv_sub hl [1, 0] rfl)
    clear hc
    exact zr_retv C w hr dX11_reset_177 (Option.some.inj h)
set_option maxHeartbeats 4000000 in
set_option maxRecDepth 100000 in
theorem zk_X11_reset_100 {p : Program} {l : Launch} {e : Env} {s : State} {m : MethodId} {args : Array Value} {below : List Frame} {meth : Method} {c : Code} {G : zg_T} {Q : State → Prop} (C : zx_C p s m args meth c G RX11 cX11_reset 3) (f1 : Int32) (oS : zs_T) (kont : ∀ (H : Heap) (locs : List Loc) (ls : Array Slot), zg_W G oS s H locs → lv_has ls 3 [(0, .ref (zg_q G 40)), (1, .int f1)] → W p l e zr_m_X11_reset s m args below meth c H locs 0 0 Q (F0 m 119 ls [])) : ∀ (n : Nat) (S : zs_T) (x2 : Int32), zl_2 (zb_X11_reset_100) n S x2 = some oS → ∀ (H : Heap) (locs : List Loc) (ls : Array Slot), zg_W G S s H locs → lv_has ls 3 [(0, .ref (zg_q G 40)), (1, .int f1), (2, .int x2)] → W p l e zr_m_X11_reset s m args below meth c H locs 0 0 Q (F0 m 100 ls []) := by
  intro n
  induction n with
  | zero => intro S x2 h; cases h
  | succ n ih =>
    intro S x2 h H locs ls w hl
    replace h : zb_X11_reset_100 (zl_2 (zb_X11_reset_100) n) S x2 = some oS := h
    generalize zl_2 (zb_X11_reset_100) n = rec at ih h
    unfold zb_X11_reset_100 at h
    refine lv_iload_n C.1 C.2.1 dX11_reset_100 rfl (lv_at hl 2 rfl) ?_
    refine lv_bipush (v := 9) C.1 C.2.1 dX11_reset_101 (by decide) ?_
    refine zr_ic_ge (tgt := 119) C dX11_reset_103 (by decide) h (fun h => ?_) (fun h => ?_)
    · cases h
      exact kont _ _ _ w (lv_sub hl [0, 1] rfl)
    · refine lv_aload_n C.1 C.2.1 dX11_reset_106 rfl (lv_at hl 0 rfl) ?_
      refine zr_get C w 40 zm_w_X11 (zw_g40 G _) rfl 14 (by decide) zm_f_X11_29 rfl dX11_reset_107 ?_
      refine lv_iload_n C.1 C.2.1 dX11_reset_110 rfl (lv_at hl 2 rfl) ?_
      refine lv_lconst (v := 0) C.1 C.2.1 dX11_reset_111 (by decide) ?_
      refine zr_last C w 47 (zw_g47 G _) (zw_s47 G _) dX11_reset_112 h (fun S15 H locs w h => ?_)
      obtain ⟨v16, e_, h⟩ := zc_lt_x h
      refine lv_iinc (v := v16) (lv' := [(2, .int v16), (0, .ref (zg_q G 40)), (1, .int f1)]) C.1 C.2.1 dX11_reset_113 hl (k := 2) rfl (by subst e_; rfl) (by decide) rfl (fun ls hl => ?_)
      clear e_
      refine lv_goto (tgt := 100) C.1 C.2.1 dX11_reset_116 (by decide) ?_
      exact ih _ _ h _ _ _ w (lv_sub hl [1, 2, 0] rfl)
set_option maxHeartbeats 4000000 in
set_option maxRecDepth 100000 in
theorem zq_X11_reset_73 {p : Program} {l : Launch} {e : Env} {s : State} {m : MethodId} {args : Array Value} {below : List Frame} {meth : Method} {c : Code} {G : zg_T} (hr : meth.sig.returnType = none) (C : zx_C p s m args meth c G RX11 cX11_reset 3) (S1 : zs_T) (S : zs_T) (y1 : Int32) (h : zj_X11_reset_73 S y1 = some S1) (H : Heap) (locs : List Loc) (ls : Array Slot) (w : zg_W G S s H locs) (hl : lv_has ls 3 [(0, .ref (zg_q G 40)), (1, .int y1)]) : W p l e zr_m_X11_reset s m args below meth c H locs 0 0 (MQ below (zg_Q G none S1) args s 0 0 (zg_A G)) (F0 m 73 ls []) := by
  unfold zj_X11_reset_73 at h
  refine lv_iload_n C.1 C.2.1 dX11_reset_73 rfl (lv_at hl 1 rfl) ?_
  refine zr_if_eq (tgt := 119) C dX11_reset_74 (by decide) h (fun h => ?_) (fun h => ?_)
  · exact zq_X11_reset_119 hr C _ _ _ h _ _ _ w (lv_sub hl [0, 1] rfl)
  · refine lv_aload_n C.1 C.2.1 dX11_reset_77 rfl (lv_at hl 0 rfl) ?_
    refine lv_bipush (v := 40) C.1 C.2.1 dX11_reset_78 (by decide) ?_
    refine zr_put C w 40 zm_w_X11 tyX11 tyX11_ok nmX11 (zw_g40 G _) rfl 16 (by decide) zm_f_X11_35 rfl (ty := .int) (by decide +kernel) rfl rfl (Nat.le_of_ble_eq_true rfl) (zw_f40_16 G _ _) dX11_reset_80 h (fun S11 H locs w h => ?_)
    refine lv_aload_n C.1 C.2.1 dX11_reset_83 rfl (lv_at hl 0 rfl) ?_
    refine lv_lconst (v := 0) C.1 C.2.1 dX11_reset_84 (by decide) ?_
    refine zr_put C w 40 zm_w_X11 tyX11 tyX11_ok nmX11 (zw_g40 G _) rfl 17 (by decide) zm_f_X11_249 rfl (ty := .long) (by decide +kernel) rfl rfl (Nat.le_of_ble_eq_true rfl) (zw_f40_17 G _ _) dX11_reset_85 h (fun S12 H locs w h => ?_)
    refine lv_aload_n C.1 C.2.1 dX11_reset_88 rfl (lv_at hl 0 rfl) ?_
    refine lv_iconst (v := 0) C.1 C.2.1 dX11_reset_89 (by decide) ?_
    refine zr_put C w 40 zm_w_X11 tyX11 tyX11_ok nmX11 (zw_g40 G _) rfl 8 (by decide) zm_f_X11_254 rfl (ty := .int) (by decide +kernel) rfl rfl (Nat.le_of_ble_eq_true rfl) (zw_f40_8 G _ _) dX11_reset_90 h (fun S13 H locs w h => ?_)
    refine lv_aload_n C.1 C.2.1 dX11_reset_93 rfl (lv_at hl 0 rfl) ?_
    refine lv_iconst (v := 1) C.1 C.2.1 dX11_reset_94 (by decide) ?_
    obtain ⟨S14, hc, h⟩ := zc_b1_x h
    refine zr_callVv C w 40 (zw_g40 G _) rfl (As := [.int (1 : Int32)]) (zm_X11_clears l G _ _ _ hc) zm_c_X11_clears zm_l_X11_257 zm_i_X11_clears zm_e_X11_clears zm_0_X11 zm_d_X11_clears ⟨rfl, rfl⟩ ⟨Nat.le_of_ble_eq_true rfl, Nat.le_of_ble_eq_true rfl⟩ hl.1 rfl rfl (Nat.le_of_ble_eq_true rfl) dX11_reset_95 ⟨Nat.le_of_ble_eq_true rfl, Nat.le_of_ble_eq_true rfl⟩ (fun H locs w => ?_)
    clear hc
    refine lv_iconst (v := 0) C.1 C.2.1 dX11_reset_98 (by decide) ?_
    refine lv_istore_n (lv' := [(2, .int (0 : Int32)), (0, .ref (zg_q G 40)), (1, .int y1)]) C.1 C.2.1 dX11_reset_99 rfl hl (by decide) rfl (fun ls hl => ?_)
    obtain ⟨S17, hc, h⟩ := zc_b1_x h
    refine zk_X11_reset_100 C y1 S17 (fun H locs ls w hl => ?_) _ _ _ hc _ _ _ w (lv_sub hl [1, 2, 0] rfl)
    clear hc
    exact zq_X11_reset_119 hr C _ _ _ h _ _ _ w (lv_sub hl [0, 1] rfl)
set_option maxHeartbeats 4000000 in
set_option maxRecDepth 100000 in
theorem zk_X11_reset_54 {p : Program} {l : Launch} {e : Env} {s : State} {m : MethodId} {args : Array Value} {below : List Frame} {meth : Method} {c : Code} {G : zg_T} {Q : State → Prop} (C : zx_C p s m args meth c G RX11 cX11_reset 3) (f1 : Int32) (oS : zs_T) (kont : ∀ (H : Heap) (locs : List Loc) (ls : Array Slot), zg_W G oS s H locs → lv_has ls 3 [(0, .ref (zg_q G 40)), (1, .int f1)] → W p l e zr_m_X11_reset s m args below meth c H locs 0 0 Q (F0 m 73 ls [])) : ∀ (n : Nat) (S : zs_T) (x2 : Int32), zl_2 (zb_X11_reset_54) n S x2 = some oS → ∀ (H : Heap) (locs : List Loc) (ls : Array Slot), zg_W G S s H locs → lv_has ls 3 [(0, .ref (zg_q G 40)), (1, .int f1), (2, .int x2)] → W p l e zr_m_X11_reset s m args below meth c H locs 0 0 Q (F0 m 54 ls []) := by
  intro n
  induction n with
  | zero => intro S x2 h; cases h
  | succ n ih =>
    intro S x2 h H locs ls w hl
    replace h : zb_X11_reset_54 (zl_2 (zb_X11_reset_54) n) S x2 = some oS := h
    generalize zl_2 (zb_X11_reset_54) n = rec at ih h
    unfold zb_X11_reset_54 at h
    refine lv_iload_n C.1 C.2.1 dX11_reset_54 rfl (lv_at hl 2 rfl) ?_
    refine lv_bipush (v := 9) C.1 C.2.1 dX11_reset_55 (by decide) ?_
    refine zr_ic_ge (tgt := 73) C dX11_reset_57 (by decide) h (fun h => ?_) (fun h => ?_)
    · cases h
      exact kont _ _ _ w (lv_sub hl [0, 1] rfl)
    · refine lv_aload_n C.1 C.2.1 dX11_reset_60 rfl (lv_at hl 0 rfl) ?_
      refine zr_get C w 40 zm_w_X11 (zw_g40 G _) rfl 13 (by decide) zm_f_X11_26 rfl dX11_reset_61 ?_
      refine lv_iload_n C.1 C.2.1 dX11_reset_64 rfl (lv_at hl 2 rfl) ?_
      refine lv_lconst (v := 0) C.1 C.2.1 dX11_reset_65 (by decide) ?_
      refine zr_last C w 46 (zw_g46 G _) (zw_s46 G _) dX11_reset_66 h (fun S23 H locs w h => ?_)
      obtain ⟨v24, e_, h⟩ := zc_lt_x h
      refine lv_iinc (v := v24) (lv' := [(2, .int v24), (0, .ref (zg_q G 40)), (1, .int f1)]) C.1 C.2.1 dX11_reset_67 hl (k := 2) rfl (by subst e_; rfl) (by decide) rfl (fun ls hl => ?_)
      clear e_
      refine lv_goto (tgt := 54) C.1 C.2.1 dX11_reset_70 (by decide) ?_
      exact ih _ _ h _ _ _ w (lv_sub hl [1, 2, 0] rfl)
set_option maxHeartbeats 4000000 in
set_option maxRecDepth 100000 in
theorem zq_X11_reset_15 {p : Program} {l : Launch} {e : Env} {s : State} {m : MethodId} {args : Array Value} {below : List Frame} {meth : Method} {c : Code} {G : zg_T} (hr : meth.sig.returnType = none) (C : zx_C p s m args meth c G RX11 cX11_reset 3) (S1 : zs_T) (S : zs_T) (y1 : Int32) (z0 : Int32) (h : zj_X11_reset_15 S y1 z0 = some S1) (H : Heap) (locs : List Loc) (ls : Array Slot) (w : zg_W G S s H locs) (hl : lv_has ls 3 [(0, .ref (zg_q G 40)), (1, .int y1)]) : W p l e zr_m_X11_reset s m args below meth c H locs 0 0 (MQ below (zg_Q G none S1) args s 0 0 (zg_A G)) (F0 m 15 ls [.int z0, .ref (zg_q G 40)]) := by
  unfold zj_X11_reset_15 at h
  obtain ⟨v1, S2, hc, h⟩ := zc_b2_x h
  refine zr_callVi C w 40 (zw_g40 G _) rfl (As := [.int z0]) (zm_X11_refuses l G _ _ _ _ hc) zm_c_X11_refuses zm_l_X11_91 zm_i_X11_refuses zm_e_X11_refuses zm_0_X11 zm_d_X11_refuses ⟨rfl, rfl⟩ ⟨Nat.le_of_ble_eq_true rfl, Nat.le_of_ble_eq_true rfl⟩ hl.1 rfl rfl (Nat.le_of_ble_eq_true rfl) dX11_reset_15 ⟨Nat.le_of_ble_eq_true rfl, Nat.le_of_ble_eq_true rfl⟩ (fun H locs w => ?_)
  clear hc
  refine zr_if_eq (tgt := 22) C dX11_reset_18 (by decide) h (fun h => ?_) (fun h => ?_)
  · refine lv_iload_n C.1 C.2.1 dX11_reset_22 rfl (lv_at hl 1 rfl) ?_
    refine lv_iconst (v := 1) C.1 C.2.1 dX11_reset_23 (by decide) ?_
    refine zr_ic_eq (tgt := 73) C dX11_reset_24 (by decide) h (fun h => ?_) (fun h => ?_)
    · exact zq_X11_reset_73 hr C _ _ _ h _ _ _ w (lv_sub hl [0, 1] rfl)
    · refine lv_aload_n C.1 C.2.1 dX11_reset_27 rfl (lv_at hl 0 rfl) ?_
      refine lv_lconst (v := 0) C.1 C.2.1 dX11_reset_28 (by decide) ?_
      refine zr_put C w 40 zm_w_X11 tyX11 tyX11_ok nmX11 (zw_g40 G _) rfl 9 (by decide) zm_f_X11_101 rfl (ty := .long) (by decide +kernel) rfl rfl (Nat.le_of_ble_eq_true rfl) (zw_f40_9 G _ _) dX11_reset_29 h (fun S18 H locs w h => ?_)
      refine lv_aload_n C.1 C.2.1 dX11_reset_32 rfl (lv_at hl 0 rfl) ?_
      refine lv_lconst (v := 0) C.1 C.2.1 dX11_reset_33 (by decide) ?_
      refine zr_put C w 40 zm_w_X11 tyX11 tyX11_ok nmX11 (zw_g40 G _) rfl 10 (by decide) zm_f_X11_107 rfl (ty := .long) (by decide +kernel) rfl rfl (Nat.le_of_ble_eq_true rfl) (zw_f40_10 G _ _) dX11_reset_34 h (fun S19 H locs w h => ?_)
      refine lv_aload_n C.1 C.2.1 dX11_reset_37 rfl (lv_at hl 0 rfl) ?_
      refine lv_lconst (v := 0) C.1 C.2.1 dX11_reset_38 (by decide) ?_
      refine zr_put C w 40 zm_w_X11 tyX11 tyX11_ok nmX11 (zw_g40 G _) rfl 11 (by decide) zm_f_X11_119 rfl (ty := .long) (by decide +kernel) rfl rfl (Nat.le_of_ble_eq_true rfl) (zw_f40_11 G _ _) dX11_reset_39 h (fun S20 H locs w h => ?_)
      refine lv_aload_n C.1 C.2.1 dX11_reset_42 rfl (lv_at hl 0 rfl) ?_
      refine lv_iconst (v := 0) C.1 C.2.1 dX11_reset_43 (by decide) ?_
      refine zr_put C w 40 zm_w_X11 tyX11 tyX11_ok nmX11 (zw_g40 G _) rfl 7 (by decide) zm_f_X11_238 rfl (ty := .int) (by decide +kernel) rfl rfl (Nat.le_of_ble_eq_true rfl) (zw_f40_7 G _ _) dX11_reset_44 h (fun S21 H locs w h => ?_)
      refine lv_aload_n C.1 C.2.1 dX11_reset_47 rfl (lv_at hl 0 rfl) ?_
      refine lv_iconst (v := 0) C.1 C.2.1 dX11_reset_48 (by decide) ?_
      obtain ⟨S22, hc, h⟩ := zc_b1_x h
      refine zr_callVv C w 40 (zw_g40 G _) rfl (As := [.int (0 : Int32)]) (zm_X11_clears l G _ _ _ hc) zm_c_X11_clears zm_l_X11_257 zm_i_X11_clears zm_e_X11_clears zm_0_X11 zm_d_X11_clears ⟨rfl, rfl⟩ ⟨Nat.le_of_ble_eq_true rfl, Nat.le_of_ble_eq_true rfl⟩ hl.1 rfl rfl (Nat.le_of_ble_eq_true rfl) dX11_reset_49 ⟨Nat.le_of_ble_eq_true rfl, Nat.le_of_ble_eq_true rfl⟩ (fun H locs w => ?_)
      clear hc
      refine lv_iconst (v := 0) C.1 C.2.1 dX11_reset_52 (by decide) ?_
      refine lv_istore_n (lv' := [(2, .int (0 : Int32)), (0, .ref (zg_q G 40)), (1, .int y1)]) C.1 C.2.1 dX11_reset_53 rfl hl (by decide) rfl (fun ls hl => ?_)
      obtain ⟨S25, hc, h⟩ := zc_b1_x h
      refine zk_X11_reset_54 C y1 S25 (fun H locs ls w hl => ?_) _ _ _ hc _ _ _ w (lv_sub hl [1, 2, 0] rfl)
      clear hc
      exact zq_X11_reset_73 hr C _ _ _ h _ _ _ w (lv_sub hl [0, 1] rfl)
  · exact zr_retv C w hr dX11_reset_21 (Option.some.inj h)
set_option maxHeartbeats 4000000 in
set_option maxRecDepth 100000 in
theorem zq_X11_reset_10 {p : Program} {l : Launch} {e : Env} {s : State} {m : MethodId} {args : Array Value} {below : List Frame} {meth : Method} {c : Code} {G : zg_T} (hr : meth.sig.returnType = none) (C : zx_C p s m args meth c G RX11 cX11_reset 3) (S1 : zs_T) (S : zs_T) (y1 : Int32) (h : zj_X11_reset_10 S y1 = some S1) (H : Heap) (locs : List Loc) (ls : Array Slot) (w : zg_W G S s H locs) (hl : lv_has ls 3 [(0, .ref (zg_q G 40)), (1, .int y1)]) : W p l e zr_m_X11_reset s m args below meth c H locs 0 0 (MQ below (zg_Q G none S1) args s 0 0 (zg_A G)) (F0 m 10 ls [.ref (zg_q G 40)]) := by
  unfold zj_X11_reset_10 at h
  refine lv_iconst (v := 1) C.1 C.2.1 dX11_reset_10 (by decide) ?_
  refine lv_goto (tgt := 15) C.1 C.2.1 dX11_reset_11 (by decide) ?_
  exact zq_X11_reset_15 hr C _ _ _ _ h _ _ _ w (lv_sub hl [0, 1] rfl)
set_option maxHeartbeats 4000000 in
set_option maxRecDepth 100000 in
theorem zm_X11_reset (l : Launch) (G : zg_T) (S : zs_T) (a1 : Int32) (S1 : zs_T) (h : zf_X11_reset S a1 = some S1) : Met l yX11_reset (Cond.code yX11_reset cX11_reset 3 none :: zt_G) zr_m_X11_reset (va_Pc [.ref (zg_q G 40), .int a1] (zg_P G S)) (zg_Q G none S1) 0 0 (zg_A G) := by
  refine zx_met (by decide +kernel) (Nat.le_of_ble_eq_true rfl) (lv := [(0, .ref (zg_q G 40)), (1, .int a1)]) rfl ?_
  intro p e s m below meth c C hr w ls hl
  replace C : zx_C p s m _ meth c G RX11 cX11_reset 3 := C
  unfold zf_X11_reset at h
  refine lv_aload_n C.1 C.2.1 dX11_reset_0 rfl (lv_at hl 0 rfl) ?_
  refine lv_iload_n C.1 C.2.1 dX11_reset_1 rfl (lv_at hl 1 rfl) ?_
  refine zr_if_lt (tgt := 10) C dX11_reset_2 (by decide) h (fun h => ?_) (fun h => ?_)
  · exact zq_X11_reset_10 hr C _ _ _ h _ _ _ w (lv_sub hl [0, 1] rfl)
  · refine lv_iload_n C.1 C.2.1 dX11_reset_5 rfl (lv_at hl 1 rfl) ?_
    refine lv_iconst (v := 2) C.1 C.2.1 dX11_reset_6 (by decide) ?_
    refine zr_ic_le (tgt := 14) C dX11_reset_7 (by decide) h (fun h => ?_) (fun h => ?_)
    · refine lv_iconst (v := 0) C.1 C.2.1 dX11_reset_14 (by decide) ?_
      exact zq_X11_reset_15 hr C _ _ _ _ h _ _ _ w (lv_sub hl [0, 1] rfl)
    · exact zq_X11_reset_10 hr C _ _ _ h _ _ _ w (lv_sub hl [0, 1] rfl)
