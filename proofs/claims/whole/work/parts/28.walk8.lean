set_option maxHeartbeats 4000000 in
set_option maxRecDepth 100000 in
theorem zq_X11_sample_17 {p : Program} {l : Launch} {e : Env} {s : State} {m : MethodId} {args : Array Value} {below : List Frame} {meth : Method} {c : Code} {G : zg_T} (hr : meth.sig.returnType = (some .int)) (C : zx_C p s m args meth c G RX11 cX11_sample 2) (r : Int32) (S1 : zs_T) (S : zs_T) (y1 : Int32) (z0 : Int32) (h : zj_X11_sample_17 S y1 z0 = some (r, S1)) (H : Heap) (locs : List Loc) (ls : Array Slot) (w : zg_W G S s H locs) (hl : lv_has ls 2 [(0, .ref (zg_q G 40)), (1, .int y1)]) : W p l e zr_m_X11_sample s m args below meth c H locs 0 0 (MQ below (zg_Q G (some (.int r)) S1) args s 0 0 (zg_A G)) (F0 m 17 ls [.int z0, .ref (zg_q G 40)]) := by
  unfold zj_X11_sample_17 at h
  obtain ⟨v1, S2, hc, h⟩ := zc_b2_x h
  refine zr_callVi C w 40 (zw_g40 G _) rfl (As := [.int z0]) (zm_X11_refuses l G _ _ _ _ hc) zm_c_X11_refuses zm_l_X11_91 zm_i_X11_refuses zm_e_X11_refuses zm_0_X11 zm_d_X11_refuses ⟨rfl, rfl⟩ ⟨Nat.le_of_ble_eq_true rfl, Nat.le_of_ble_eq_true rfl⟩ hl.1 rfl rfl (Nat.le_of_ble_eq_true rfl) dX11_sample_17 ⟨Nat.le_of_ble_eq_true rfl, Nat.le_of_ble_eq_true rfl⟩ (fun H locs w => ?_)
  clear hc
  refine zr_if_eq (tgt := 27) C dX11_sample_20 (by decide) h (fun h => ?_) (fun h => ?_)
  · refine lv_aload_n C.1 C.2.1 dX11_sample_27 rfl (lv_at hl 0 rfl) ?_
    refine zr_get C w 40 zm_w_X11 (zw_g40 G _) rfl 6 (by decide) zm_f_X11_20 rfl dX11_sample_28 ?_
    refine lv_iload_n C.1 C.2.1 dX11_sample_31 rfl (lv_at hl 1 rfl) ?_
    refine zr_iald C w 44 (zw_g44 G _) dX11_sample_32 h (fun h => ?_)
    exact zr_reti C w hr dX11_sample_33 (congrArg Prod.fst (Option.some.inj h)) (congrArg Prod.snd (Option.some.inj h))
  · refine lv_iconst (v := 0) C.1 C.2.1 dX11_sample_23 (by decide) ?_
    refine lv_goto (tgt := 33) C.1 C.2.1 dX11_sample_24 (by decide) ?_
    exact zr_reti C w hr dX11_sample_33 (congrArg Prod.fst (Option.some.inj h)) (congrArg Prod.snd (Option.some.inj h))
set_option maxHeartbeats 4000000 in
set_option maxRecDepth 100000 in
theorem zq_X11_sample_12 {p : Program} {l : Launch} {e : Env} {s : State} {m : MethodId} {args : Array Value} {below : List Frame} {meth : Method} {c : Code} {G : zg_T} (hr : meth.sig.returnType = (some .int)) (C : zx_C p s m args meth c G RX11 cX11_sample 2) (r : Int32) (S1 : zs_T) (S : zs_T) (y1 : Int32) (h : zj_X11_sample_12 S y1 = some (r, S1)) (H : Heap) (locs : List Loc) (ls : Array Slot) (w : zg_W G S s H locs) (hl : lv_has ls 2 [(0, .ref (zg_q G 40)), (1, .int y1)]) : W p l e zr_m_X11_sample s m args below meth c H locs 0 0 (MQ below (zg_Q G (some (.int r)) S1) args s 0 0 (zg_A G)) (F0 m 12 ls [.ref (zg_q G 40)]) := by
  unfold zj_X11_sample_12 at h
  refine lv_iconst (v := 1) C.1 C.2.1 dX11_sample_12 (by decide) ?_
  refine lv_goto (tgt := 17) C.1 C.2.1 dX11_sample_13 (by decide) ?_
  exact zq_X11_sample_17 hr C _ _ _ _ _ h _ _ _ w (lv_sub hl [0, 1] rfl)
set_option maxHeartbeats 4000000 in
set_option maxRecDepth 100000 in
theorem zm_X11_sample (l : Launch) (G : zg_T) (S : zs_T) (a1 : Int32) (r : Int32) (S1 : zs_T) (h : zf_X11_sample S a1 = some (r, S1)) : Met l yX11_sample (Cond.code yX11_sample cX11_sample 2 (some .int) :: zt_G) zr_m_X11_sample (va_Pc [.ref (zg_q G 40), .int a1] (zg_P G S)) (zg_Q G (some (.int r)) S1) 0 0 (zg_A G) := by
  refine zx_met (by decide +kernel) (Nat.le_of_ble_eq_true rfl) (lv := [(0, .ref (zg_q G 40)), (1, .int a1)]) rfl ?_
  intro p e s m below meth c C hr w ls hl
  replace C : zx_C p s m _ meth c G RX11 cX11_sample 2 := C
  unfold zf_X11_sample at h
  refine lv_aload_n C.1 C.2.1 dX11_sample_0 rfl (lv_at hl 0 rfl) ?_
  refine lv_iload_n C.1 C.2.1 dX11_sample_1 rfl (lv_at hl 1 rfl) ?_
  refine zr_if_lt (tgt := 12) C dX11_sample_2 (by decide) h (fun h => ?_) (fun h => ?_)
  · exact zq_X11_sample_12 hr C _ _ _ _ h _ _ _ w (lv_sub hl [0, 1] rfl)
  · refine lv_iload_n C.1 C.2.1 dX11_sample_5 rfl (lv_at hl 1 rfl) ?_
    refine lv_sipush (v := 159) C.1 C.2.1 dX11_sample_6 (by decide) ?_
    refine zr_ic_le (tgt := 16) C dX11_sample_9 (by decide) h (fun h => ?_) (fun h => ?_)
    · refine lv_iconst (v := 0) C.1 C.2.1 dX11_sample_16 (by decide) ?_
      exact zq_X11_sample_17 hr C _ _ _ _ _ h _ _ _ w (lv_sub hl [0, 1] rfl)
    · exact zq_X11_sample_12 hr C _ _ _ _ h _ _ _ w (lv_sub hl [0, 1] rfl)
set_option maxHeartbeats 4000000 in
set_option maxRecDepth 100000 in
theorem zk_X11_clears_5 {p : Program} {l : Launch} {e : Env} {s : State} {m : MethodId} {args : Array Value} {below : List Frame} {meth : Method} {c : Code} {G : zg_T} {Q : State → Prop} (C : zx_C p s m args meth c G RX11 cX11_clears 3) (f1 : Int32) (oS : zs_T) (kont : ∀ (H : Heap) (locs : List Loc) (ls : Array Slot), zg_W G oS s H locs → lv_has ls 3 [(0, .ref (zg_q G 40)), (1, .int f1)] → W p l e zr_m_X11_clears s m args below meth c H locs 0 0 Q (F0 m 29 ls [])) : ∀ (n : Nat) (S : zs_T) (x2 : Int32), zl_2 (zb_X11_clears_5 f1) n S x2 = some oS → ∀ (H : Heap) (locs : List Loc) (ls : Array Slot), zg_W G S s H locs → lv_has ls 3 [(0, .ref (zg_q G 40)), (1, .int f1), (2, .int x2)] → W p l e zr_m_X11_clears s m args below meth c H locs 0 0 Q (F0 m 5 ls []) := by
  intro n
  induction n with
  | zero => intro S x2 h; cases h
  | succ n ih =>
    intro S x2 h H locs ls w hl
    replace h : zb_X11_clears_5 f1 (zl_2 (zb_X11_clears_5 f1) n) S x2 = some oS := h
    generalize zl_2 (zb_X11_clears_5 f1) n = rec at ih h
    unfold zb_X11_clears_5 at h
    refine lv_iload_n C.1 C.2.1 dX11_clears_5 rfl (lv_at hl 2 rfl) ?_
    refine lv_bipush (v := 8) C.1 C.2.1 dX11_clears_6 (by decide) ?_
    refine lv_iload_n C.1 C.2.1 dX11_clears_8 rfl (lv_at hl 1 rfl) ?_
    refine lv_imul C.1 C.2.1 dX11_clears_9 ?_
    refine lv_bipush (v := 8) C.1 C.2.1 dX11_clears_10 (by decide) ?_
    refine lv_iadd C.1 C.2.1 dX11_clears_12 ?_
    refine zr_ic_ge (tgt := 29) C dX11_clears_13 (by decide) h (fun h => ?_) (fun h => ?_)
    · cases h
      exact kont _ _ _ w (lv_sub hl [0, 1] rfl)
    · refine lv_aload_n C.1 C.2.1 dX11_clears_16 rfl (lv_at hl 0 rfl) ?_
      refine zr_get C w 40 zm_w_X11 (zw_g40 G _) rfl 12 (by decide) zm_f_X11_23 rfl dX11_clears_17 ?_
      refine lv_iload_n C.1 C.2.1 dX11_clears_20 rfl (lv_at hl 2 rfl) ?_
      refine lv_lconst (v := 0) C.1 C.2.1 dX11_clears_21 (by decide) ?_
      refine zr_last C w 45 (zw_g45 G _) (zw_s45 G _) dX11_clears_22 h (fun S2 H locs w h => ?_)
      obtain ⟨v3, e_, h⟩ := zc_lt_x h
      refine lv_iinc (v := v3) (lv' := [(2, .int v3), (0, .ref (zg_q G 40)), (1, .int f1)]) C.1 C.2.1 dX11_clears_23 hl (k := 2) rfl (by subst e_; rfl) (by decide) rfl (fun ls hl => ?_)
      clear e_
      refine lv_goto (tgt := 5) C.1 C.2.1 dX11_clears_26 (by decide) ?_
      exact ih _ _ h _ _ _ w (lv_sub hl [1, 2, 0] rfl)
set_option maxHeartbeats 4000000 in
set_option maxRecDepth 100000 in
theorem zk_X11_clears_35 {p : Program} {l : Launch} {e : Env} {s : State} {m : MethodId} {args : Array Value} {below : List Frame} {meth : Method} {c : Code} {G : zg_T} {Q : State → Prop} (C : zx_C p s m args meth c G RX11 cX11_clears 3) (f1 : Int32) (oS : zs_T) (kont : ∀ (H : Heap) (locs : List Loc) (ls : Array Slot), zg_W G oS s H locs → lv_has ls 3 [] → W p l e zr_m_X11_clears s m args below meth c H locs 0 0 Q (F0 m 61 ls [])) : ∀ (n : Nat) (S : zs_T) (x2 : Int32), zl_2 (zb_X11_clears_35 f1) n S x2 = some oS → ∀ (H : Heap) (locs : List Loc) (ls : Array Slot), zg_W G S s H locs → lv_has ls 3 [(0, .ref (zg_q G 40)), (1, .int f1), (2, .int x2)] → W p l e zr_m_X11_clears s m args below meth c H locs 0 0 Q (F0 m 35 ls []) := by
  intro n
  induction n with
  | zero => intro S x2 h; cases h
  | succ n ih =>
    intro S x2 h H locs ls w hl
    replace h : zb_X11_clears_35 f1 (zl_2 (zb_X11_clears_35 f1) n) S x2 = some oS := h
    generalize zl_2 (zb_X11_clears_35 f1) n = rec at ih h
    unfold zb_X11_clears_35 at h
    refine lv_iload_n C.1 C.2.1 dX11_clears_35 rfl (lv_at hl 2 rfl) ?_
    refine lv_sipush (v := 280) C.1 C.2.1 dX11_clears_36 (by decide) ?_
    refine lv_iload_n C.1 C.2.1 dX11_clears_39 rfl (lv_at hl 1 rfl) ?_
    refine lv_imul C.1 C.2.1 dX11_clears_40 ?_
    refine lv_sipush (v := 280) C.1 C.2.1 dX11_clears_41 (by decide) ?_
    refine lv_iadd C.1 C.2.1 dX11_clears_44 ?_
    refine zr_ic_ge (tgt := 61) C dX11_clears_45 (by decide) h (fun h => ?_) (fun h => ?_)
    · cases h
      exact kont _ _ _ w (lv_sub hl [] rfl)
    · refine lv_aload_n C.1 C.2.1 dX11_clears_48 rfl (lv_at hl 0 rfl) ?_
      refine zr_get C w 40 zm_w_X11 (zw_g40 G _) rfl 15 (by decide) zm_f_X11_32 rfl dX11_clears_49 ?_
      refine lv_iload_n C.1 C.2.1 dX11_clears_52 rfl (lv_at hl 2 rfl) ?_
      refine lv_lconst (v := 0) C.1 C.2.1 dX11_clears_53 (by decide) ?_
      refine zr_last C w 48 (zw_g48 G _) (zw_s48 G _) dX11_clears_54 h (fun S6 H locs w h => ?_)
      obtain ⟨v7, e_, h⟩ := zc_lt_x h
      refine lv_iinc (v := v7) (lv' := [(2, .int v7), (0, .ref (zg_q G 40)), (1, .int f1)]) C.1 C.2.1 dX11_clears_55 hl (k := 2) rfl (by subst e_; rfl) (by decide) rfl (fun ls hl => ?_)
      clear e_
      refine lv_goto (tgt := 35) C.1 C.2.1 dX11_clears_58 (by decide) ?_
      exact ih _ _ h _ _ _ w (lv_sub hl [1, 2, 0] rfl)
set_option maxHeartbeats 4000000 in
set_option maxRecDepth 100000 in
theorem zm_X11_clears (l : Launch) (G : zg_T) (S : zs_T) (a1 : Int32) (S1 : zs_T) (h : zf_X11_clears S a1 = some S1) : Met l yX11_clears (Cond.code yX11_clears cX11_clears 3 none :: zt_G) zr_m_X11_clears (va_Pc [.ref (zg_q G 40), .int a1] (zg_P G S)) (zg_Q G none S1) 0 0 (zg_A G) := by
  refine zx_met (by decide +kernel) (Nat.le_of_ble_eq_true rfl) (lv := [(0, .ref (zg_q G 40)), (1, .int a1)]) rfl ?_
  intro p e s m below meth c C hr w ls hl
  replace C : zx_C p s m _ meth c G RX11 cX11_clears 3 := C
  unfold zf_X11_clears at h
  refine lv_bipush (v := 8) C.1 C.2.1 dX11_clears_0 (by decide) ?_
  refine lv_iload_n C.1 C.2.1 dX11_clears_2 rfl (lv_at hl 1 rfl) ?_
  refine lv_imul C.1 C.2.1 dX11_clears_3 ?_
  refine zr_lti h (fun v1 h => ?_)
  refine lv_istore_n (lv' := [(2, .int v1), (0, .ref (zg_q G 40)), (1, .int a1)]) C.1 C.2.1 dX11_clears_4 rfl hl (by decide) rfl (fun ls hl => ?_)
  obtain ⟨S4, hc, h⟩ := zc_b1_x h
  refine zk_X11_clears_5 C a1 S4 (fun H locs ls w hl => ?_) _ _ _ hc _ _ _ w (lv_sub hl [1, 2, 0] rfl)
  clear hc
  refine lv_sipush (v := 280) C.1 C.2.1 dX11_clears_29 (by decide) ?_
  refine lv_iload_n C.1 C.2.1 dX11_clears_32 rfl (lv_at hl 1 rfl) ?_
  refine lv_imul C.1 C.2.1 dX11_clears_33 ?_
  refine zr_lti h (fun v5 h => ?_)
  refine lv_istore_n (lv' := [(2, .int v5), (0, .ref (zg_q G 40)), (1, .int a1)]) C.1 C.2.1 dX11_clears_34 rfl hl (by decide) rfl (fun ls hl => ?_)
  obtain ⟨S8, hc, h⟩ := zc_b1_x h
  refine zk_X11_clears_35 C a1 S8 (fun H locs ls w hl => ?_) _ _ _ hc _ _ _ w (lv_sub hl [1, 2, 0] rfl)
  clear hc
  exact zr_retv C w hr dX11_clears_61 (Option.some.inj h)
set_option maxHeartbeats 4000000 in
set_option maxRecDepth 100000 in
theorem zk_X11_reset_136 {p : Program} {l : Launch} {e : Env} {s : State} {m : MethodId} {args : Array Value} {below : List Frame} {meth : Method} {c : Code} {G : zg_T} {Q : State → Prop} (C : zx_C p s m args meth c G RX11 cX11_reset 3) (oS : zs_T) (kont : ∀ (H : Heap) (locs : List Loc) (ls : Array Slot), zg_W G oS s H locs → lv_has ls 3 [(0, .ref (zg_q G 40))] → W p l e zr_m_X11_reset s m args below meth c H locs 0 0 Q (F0 m 155 ls [])) : ∀ (n : Nat) (S : zs_T) (x2 : Int32), zl_2 (zb_X11_reset_136) n S x2 = some oS → ∀ (H : Heap) (locs : List Loc) (ls : Array Slot), zg_W G S s H locs → lv_has ls 3 [(0, .ref (zg_q G 40)), (2, .int x2)] → W p l e zr_m_X11_reset s m args below meth c H locs 0 0 Q (F0 m 136 ls []) := by
  intro n
  induction n with
  | zero => intro S x2 h; cases h
  | succ n ih =>
    intro S x2 h H locs ls w hl
    replace h : zb_X11_reset_136 (zl_2 (zb_X11_reset_136) n) S x2 = some oS := h
    generalize zl_2 (zb_X11_reset_136) n = rec at ih h
    unfold zb_X11_reset_136 at h
    refine lv_iload_n C.1 C.2.1 dX11_reset_136 rfl (lv_at hl 1 rfl) ?_
    refine lv_bipush (v := 76) C.1 C.2.1 dX11_reset_137 (by decide) ?_
    refine zr_ic_ge (tgt := 155) C dX11_reset_139 (by decide) h (fun h => ?_) (fun h => ?_)
    · cases h
      exact kont _ _ _ w (lv_sub hl [0] rfl)
    · refine lv_aload_n C.1 C.2.1 dX11_reset_142 rfl (lv_at hl 0 rfl) ?_
      refine zr_get C w 40 zm_w_X11 (zw_g40 G _) rfl 5 (by decide) zm_f_X11_17 rfl dX11_reset_143 ?_
      refine lv_iload_n C.1 C.2.1 dX11_reset_146 rfl (lv_at hl 1 rfl) ?_
      refine lv_iconst (v := 0) C.1 C.2.1 dX11_reset_147 (by decide) ?_
      refine zr_iast C w 43 (zw_g43 G _) (zw_s43 G _) dX11_reset_148 h (fun S5 H locs w h => ?_)
      obtain ⟨v6, e_, h⟩ := zc_lt_x h
      refine lv_iinc (v := v6) (lv' := [(2, .int v6), (0, .ref (zg_q G 40))]) C.1 C.2.1 dX11_reset_149 hl (k := 1) rfl (by subst e_; rfl) (by decide) rfl (fun ls hl => ?_)
      clear e_
      refine lv_goto (tgt := 136) C.1 C.2.1 dX11_reset_152 (by decide) ?_
      exact ih _ _ h _ _ _ w (lv_sub hl [1, 0] rfl)
set_option maxHeartbeats 4000000 in
set_option maxRecDepth 100000 in
theorem zk_X11_reset_157 {p : Program} {l : Launch} {e : Env} {s : State} {m : MethodId} {args : Array Value} {below : List Frame} {meth : Method} {c : Code} {G : zg_T} {Q : State → Prop} (C : zx_C p s m args meth c G RX11 cX11_reset 3) (oS : zs_T) (kont : ∀ (H : Heap) (locs : List Loc) (ls : Array Slot), zg_W G oS s H locs → lv_has ls 3 [] → W p l e zr_m_X11_reset s m args below meth c H locs 0 0 Q (F0 m 177 ls [])) : ∀ (n : Nat) (S : zs_T) (x2 : Int32), zl_2 (zb_X11_reset_157) n S x2 = some oS → ∀ (H : Heap) (locs : List Loc) (ls : Array Slot), zg_W G S s H locs → lv_has ls 3 [(0, .ref (zg_q G 40)), (2, .int x2)] → W p l e zr_m_X11_reset s m args below meth c H locs 0 0 Q (F0 m 157 ls []) := by
  intro n
  induction n with
  | zero => intro S x2 h; cases h
  | succ n ih =>
    intro S x2 h H locs ls w hl
    replace h : zb_X11_reset_157 (zl_2 (zb_X11_reset_157) n) S x2 = some oS := h
    generalize zl_2 (zb_X11_reset_157) n = rec at ih h
    unfold zb_X11_reset_157 at h
    refine lv_iload_n C.1 C.2.1 dX11_reset_157 rfl (lv_at hl 1 rfl) ?_
    refine lv_sipush (v := 160) C.1 C.2.1 dX11_reset_158 (by decide) ?_
    refine zr_ic_ge (tgt := 177) C dX11_reset_161 (by decide) h (fun h => ?_) (fun h => ?_)
    · cases h
      exact kont _ _ _ w (lv_sub hl [] rfl)
    · refine lv_aload_n C.1 C.2.1 dX11_reset_164 rfl (lv_at hl 0 rfl) ?_
      refine zr_get C w 40 zm_w_X11 (zw_g40 G _) rfl 6 (by decide) zm_f_X11_20 rfl dX11_reset_165 ?_
      refine lv_iload_n C.1 C.2.1 dX11_reset_168 rfl (lv_at hl 1 rfl) ?_
      refine lv_iconst (v := 0) C.1 C.2.1 dX11_reset_169 (by decide) ?_
      refine zr_iast C w 44 (zw_g44 G _) (zw_s44 G _) dX11_reset_170 h (fun S8 H locs w h => ?_)
      obtain ⟨v9, e_, h⟩ := zc_lt_x h
      refine lv_iinc (v := v9) (lv' := [(2, .int v9), (0, .ref (zg_q G 40))]) C.1 C.2.1 dX11_reset_171 hl (k := 1) rfl (by subst e_; rfl) (by decide) rfl (fun ls hl => ?_)
      clear e_
      refine lv_goto (tgt := 157) C.1 C.2.1 dX11_reset_174 (by decide) ?_
      exact ih _ _ h _ _ _ w (lv_sub hl [1, 0] rfl)
set_option maxHeartbeats 4000000 in
set_option maxRecDepth 100000 in
theorem zq_X11_reset_119 {p : Program} {l : Launch} {e : Env} {s : State} {m : MethodId} {args : Array Value} {below : List Frame} {meth : Method} {c : Code} {G : zg_T} (hr : meth.sig.returnType = none) (C : zx_C p s m args meth c G RX11 cX11_reset 3) (S1 : zs_T) (S : zs_T) (y1 : Int32) (h : zj_X11_reset_119 S y1 = some S1) (H : Heap) (locs : List Loc) (ls : Array Slot) (w : zg_W G S s H locs) (hl : lv_has ls 3 [(0, .ref (zg_q G 40)), (1, .int y1)]) : W p l e zr_m_X11_reset s m args below meth c H locs 0 0 (MQ below (zg_Q G none S1) args s 0 0 (zg_A G)) (F0 m 119 ls []) := by
  unfold zj_X11_reset_119 at h
  refine lv_iload_n C.1 C.2.1 dX11_reset_119 rfl (lv_at hl 1 rfl) ?_
  refine lv_iconst (v := 2) C.1 C.2.1 dX11_reset_120 (by decide) ?_
  refine zr_ic_ne (tgt := 177) C dX11_reset_121 (by decide) h (fun h => ?_) (fun h => ?_)
  · exact zr_retv C w hr dX11_reset_177 (Option.some.inj h)
  · refine lv_aload_n C.1 C.2.1 dX11_reset_124 rfl (lv_at hl 0 rfl) ?_
    refine lv_iconst (v := 0) C.1 C.2.1 dX11_reset_125 (by decide) ?_
    refine zr_put C w 40 zm_w_X11 tyX11 tyX11_ok nmX11 (zw_g40 G _) rfl 1 (by decide) zm_f_X11_88 rfl (ty := .int) (by decide +kernel) rfl rfl (Nat.le_of_ble_eq_true rfl) (zw_f40_1 G _ _) dX11_reset_126 h (fun S3 H locs w h => ?_)
    refine lv_aload_n C.1 C.2.1 dX11_reset_129 rfl (lv_at hl 0 rfl) ?_
    refine lv_iconst (v := 0) C.1 C.2.1 dX11_reset_130 (by decide) ?_
    refine zr_put C w 40 zm_w_X11 tyX11 tyX11_ok nmX11 (zw_g40 G _) rfl 3 (by decide) zm_f_X11_241 rfl (ty := .int) (by decide +kernel) rfl rfl (Nat.le_of_ble_eq_true rfl) (zw_f40_3 G _ _) dX11_reset_131 h (fun S4 H locs w h => ?_)
    refine lv_iconst (v := 0) C.1 C.2.1 dX11_reset_134 (by decide) ?_
    refine lv_istore_n (lv' := [(2, .int (0 : Int32)), (0, .ref (zg_q G 40)), (1, .int y1)]) C.1 C.2.1 dX11_reset_135 rfl hl (by decide) rfl (fun ls hl => ?_)
    obtain ⟨S7, hc, h⟩ := zc_b1_x h
    refine zk_X11_reset_136 C S7 (fun H locs ls w hl => ?_) _ _ _ hc _ _ _ w (lv_sub hl [1, 0] rfl)
    clear hc
    refine lv_iconst (v := 0) C.1 C.2.1 dX11_reset_155 (by decide) ?_
    refine lv_istore_n (lv' := [(2, .int (0 : Int32)), (0, .ref (zg_q G 40))]) C.1 C.2.1 dX11_reset_156 rfl hl (by decide) rfl (fun ls hl => ?_)
    obtain ⟨S10, hc, h⟩ := zc_b1_x h
    refine zk_X11_reset_157 C S10 (fun H locs ls w hl => ?_) _ _ _ hc _ _ _ w (lv_sub hl [1, 0] rfl)
    clear hc
    exact zr_retv C w hr dX11_reset_177 (Option.some.inj h)
set_option maxHeartbeats 4000000 in
set_option maxRecDepth 100000 in
theorem zk_X11_reset_100 {p : Program} {l : Launch} {e : Env} {s : State} {m : MethodId} {args : Array Value} {below : List Frame} {meth : Method} {c : Code} {G : zg_T} {Q : State → Prop} (C : zx_C p s m args meth c G RX11 cX11_reset 3) (f1 : Int32) (oS : zs_T) (kont : ∀ (H : Heap) (locs : List Loc) (ls : Array Slot), zg_W G oS s H locs → lv_has ls 3 [(0, .ref (zg_q G 40)), (1, .int f1)] → W p l e zr_m_X11_reset s m args below meth c H locs 0 0 Q (F0 m 119 ls [])) : ∀ (n : Nat) (S : zs_T) (x2 : Int32), zl_2 (zb_X11_reset_100) n S x2 = some oS → ∀ (H : Heap) (locs : List Loc) (ls : Array Slot), zg_W G S s H locs → lv_has ls 3 [(0, .ref (zg_q G 40)), (1, .int f1), (2, .int x2)] → W p l e zr_m_X11_reset s m args below meth c H locs 0 0 Q (F0 m 100 ls []) := by
  intro n
  induction n with
  | zero => intro S x2 h; cases h
  | succ n ih =>
    intro S x2 h H locs ls w hl
    replace h : zb_X11_reset_100 (zl_2 (zb_X11_reset_100) n) S x2 = some oS := h
    generalize zl_2 (zb_X11_reset_100) n = rec at ih h
    unfold zb_X11_reset_100 at h
    refine lv_iload_n C.1 C.2.1 dX11_reset_100 rfl (lv_at hl 2 rfl) ?_
    refine lv_bipush (v := 9) C.1 C.2.1 dX11_reset_101 (by decide) ?_
    refine zr_ic_ge (tgt := 119) C dX11_reset_103 (by decide) h (fun h => ?_) (fun h => ?_)
    · cases h
      exact kont _ _ _ w (lv_sub hl [0, 1] rfl)
    · refine lv_aload_n C.1 C.2.1 dX11_reset_106 rfl (lv_at hl 0 rfl) ?_
      refine zr_get C w 40 zm_w_X11 (zw_g40 G _) rfl 14 (by decide) zm_f_X11_29 rfl dX11_reset_107 ?_
      refine lv_iload_n C.1 C.2.1 dX11_reset_110 rfl (lv_at hl 2 rfl) ?_
      refine lv_lconst (v := 0) C.1 C.2.1 dX11_reset_111 (by decide) ?_
      refine zr_last C w 47 (zw_g47 G _) (zw_s47 G _) dX11_reset_112 h (fun S15 H locs w h => ?_)
      obtain ⟨v16, e_, h⟩ := zc_lt_x h
      refine lv_iinc (v := v16) (lv' := [(2, .int v16), (0, .ref (zg_q G 40)), (1, .int f1)]) C.1 C.2.1 dX11_reset_113 hl (k := 2) rfl (by subst e_; rfl) (by decide) rfl (fun ls hl => ?_)
      clear e_
      refine lv_goto (tgt := 100) C.1 C.2.1 dX11_reset_116 (by decide) ?_
      exact ih _ _ h _ _ _ w (lv_sub hl [1, 2, 0] rfl)
set_option maxHeartbeats 4000000 in
set_option maxRecDepth 100000 in
theorem zq_X11_reset_73 {p : Program} {l : Launch} {e : Env} {s : State} {m : MethodId} {args : Array Value} {below : List Frame} {meth : Method} {c : Code} {G : zg_T} (hr : meth.sig.returnType = none) (C : zx_C p s m args meth c G RX11 cX11_reset 3) (S1 : zs_T) (S : zs_T) (y1 : Int32) (h : zj_X11_reset_73 S y1 = some S1) (H : Heap) (locs : List Loc) (ls : Array Slot) (w : zg_W G S s H locs) (hl : lv_has ls 3 [(0, .ref (zg_q G 40)), (1, .int y1)]) : W p l e zr_m_X11_reset s m args below meth c H locs 0 0 (MQ below (zg_Q G none S1) args s 0 0 (zg_A G)) (F0 m 73 ls []) := by
  unfold zj_X11_reset_73 at h
  refine lv_iload_n C.1 C.2.1 dX11_reset_73 rfl (lv_at hl 1 rfl) ?_
  refine zr_if_eq (tgt := 119) C dX11_reset_74 (by decide) h (fun h => ?_) (fun h => ?_)
  · exact zq_X11_reset_119 hr C _ _ _ h _ _ _ w (lv_sub hl [0, 1] rfl)
  · refine lv_aload_n C.1 C.2.1 dX11_reset_77 rfl (lv_at hl 0 rfl) ?_
    refine lv_bipush (v := 40) C.1 C.2.1 dX11_reset_78 (by decide) ?_
    refine zr_put C w 40 zm_w_X11 tyX11 tyX11_ok nmX11 (zw_g40 G _) rfl 16 (by decide) zm_f_X11_35 rfl (ty := .int) (by decide +kernel) rfl rfl (Nat.le_of_ble_eq_true rfl) (zw_f40_16 G _ _) dX11_reset_80 h (fun S11 H locs w h => ?_)
    refine lv_aload_n C.1 C.2.1 dX11_reset_83 rfl (lv_at hl 0 rfl) ?_
    refine lv_lconst (v := 0) C.1 C.2.1 dX11_reset_84 (by decide) ?_
    refine zr_put C w 40 zm_w_X11 tyX11 tyX11_ok nmX11 (zw_g40 G _) rfl 17 (by decide) zm_f_X11_249 rfl (ty := .long) (by decide +kernel) rfl rfl (Nat.le_of_ble_eq_true rfl) (zw_f40_17 G _ _) dX11_reset_85 h (fun S12 H locs w h => ?_)
    refine lv_aload_n C.1 C.2.1 dX11_reset_88 rfl (lv_at hl 0 rfl) ?_
    refine lv_iconst (v := 0) C.1 C.2.1 dX11_reset_89 (by decide) ?_
    refine zr_put C w 40 zm_w_X11 tyX11 tyX11_ok nmX11 (zw_g40 G _) rfl 8 (by decide) zm_f_X11_254 rfl (ty := .int) (by decide +kernel) rfl rfl (Nat.le_of_ble_eq_true rfl) (zw_f40_8 G _ _) dX11_reset_90 h (fun S13 H locs w h => ?_)
    refine lv_aload_n C.1 C.2.1 dX11_reset_93 rfl (lv_at hl 0 rfl) ?_
    refine lv_iconst (v := 1) C.1 C.2.1 dX11_reset_94 (by decide) ?_
    obtain ⟨S14, hc, h⟩ := zc_b1_x h
    refine zr_callVv C w 40 (zw_g40 G _) rfl (As := [.int (1 : Int32)]) (zm_X11_clears l G _ _ _ hc) zm_c_X11_clears zm_l_X11_257 zm_i_X11_clears zm_e_X11_clears zm_0_X11 zm_d_X11_clears ⟨rfl, rfl⟩ ⟨Nat.le_of_ble_eq_true rfl, Nat.le_of_ble_eq_true rfl⟩ hl.1 rfl rfl (Nat.le_of_ble_eq_true rfl) dX11_reset_95 ⟨Nat.le_of_ble_eq_true rfl, Nat.le_of_ble_eq_true rfl⟩ (fun H locs w => ?_)
    clear hc
    refine lv_iconst (v := 0) C.1 C.2.1 dX11_reset_98 (by decide) ?_
    refine lv_istore_n (lv' := [(2, .int (0 : Int32)), (0, .ref (zg_q G 40)), (1, .int y1)]) C.1 C.2.1 dX11_reset_99 rfl hl (by decide) rfl (fun ls hl => ?_)
    obtain ⟨S17, hc, h⟩ := zc_b1_x h
    refine zk_X11_reset_100 C y1 S17 (fun H locs ls w hl => ?_) _ _ _ hc _ _ _ w (lv_sub hl [1, 2, 0] rfl)
    clear hc
    exact zq_X11_reset_119 hr C _ _ _ h _ _ _ w (lv_sub hl [0, 1] rfl)
set_option maxHeartbeats 4000000 in
set_option maxRecDepth 100000 in
theorem zk_X11_reset_54 {p : Program} {l : Launch} {e : Env} {s : State} {m : MethodId} {args : Array Value} {below : List Frame} {meth : Method} {c : Code} {G : zg_T} {Q : State → Prop} (C : zx_C p s m args meth c G RX11 cX11_reset 3) (f1 : Int32) (oS : zs_T) (kont : ∀ (H : Heap) (locs : List Loc) (ls : Array Slot), zg_W G oS s H locs → lv_has ls 3 [(0, .ref (zg_q G 40)), (1, .int f1)] → W p l e zr_m_X11_reset s m args below meth c H locs 0 0 Q (F0 m 73 ls [])) : ∀ (n : Nat) (S : zs_T) (x2 : Int32), zl_2 (zb_X11_reset_54) n S x2 = some oS → ∀ (H : Heap) (locs : List Loc) (ls : Array Slot), zg_W G S s H locs → lv_has ls 3 [(0, .ref (zg_q G 40)), (1, .int f1), (2, .int x2)] → W p l e zr_m_X11_reset s m args below meth c H locs 0 0 Q (F0 m 54 ls []) := by
  intro n
  induction n with
  | zero => intro S x2 h; cases h
  | succ n ih =>
    intro S x2 h H locs ls w hl
    replace h : zb_X11_reset_54 (zl_2 (zb_X11_reset_54) n) S x2 = some oS := h
    generalize zl_2 (zb_X11_reset_54) n = rec at ih h
    unfold zb_X11_reset_54 at h
    refine lv_iload_n C.1 C.2.1 dX11_reset_54 rfl (lv_at hl 2 rfl) ?_
    refine lv_bipush (v := 9) C.1 C.2.1 dX11_reset_55 (by decide) ?_
    refine zr_ic_ge (tgt := 73) C dX11_reset_57 (by decide) h (fun h => ?_) (fun h => ?_)
    · cases h
      exact kont _ _ _ w (lv_sub hl [0, 1] rfl)
    · refine lv_aload_n C.1 C.2.1 dX11_reset_60 rfl (lv_at hl 0 rfl) ?_
      refine zr_get C w 40 zm_w_X11 (zw_g40 G _) rfl 13 (by decide) zm_f_X11_26 rfl dX11_reset_61 ?_
      refine lv_iload_n C.1 C.2.1 dX11_reset_64 rfl (lv_at hl 2 rfl) ?_
      refine lv_lconst (v := 0) C.1 C.2.1 dX11_reset_65 (by decide) ?_
      refine zr_last C w 46 (zw_g46 G _) (zw_s46 G _) dX11_reset_66 h (fun S23 H locs w h => ?_)
      obtain ⟨v24, e_, h⟩ := zc_lt_x h
      refine lv_iinc (v := v24) (lv' := [(2, .int v24), (0, .ref (zg_q G 40)), (1, .int f1)]) C.1 C.2.1 dX11_reset_67 hl (k := 2) rfl (by subst e_; rfl) (by decide) rfl (fun ls hl => ?_)
      clear e_
      refine lv_goto (tgt := 54) C.1 C.2.1 dX11_reset_70 (by decide) ?_
      exact ih _ _ h _ _ _ w (lv_sub hl [1, 2, 0] rfl)
set_option maxHeartbeats 4000000 in
set_option maxRecDepth 100000 in
theorem zq_X11_reset_15 {p : Program} {l : Launch} {e : Env} {s : State} {m : MethodId} {args : Array Value} {below : List Frame} {meth : Method} {c : Code} {G : zg_T} (hr : meth.sig.returnType = none) (C : zx_C p s m args meth c G RX11 cX11_reset 3) (S1 : zs_T) (S : zs_T) (y1 : Int32) (z0 : Int32) (h : zj_X11_reset_15 S y1 z0 = some S1) (H : Heap) (locs : List Loc) (ls : Array Slot) (w : zg_W G S s H locs) (hl : lv_has ls 3 [(0, .ref (zg_q G 40)), (1, .int y1)]) : W p l e zr_m_X11_reset s m args below meth c H locs 0 0 (MQ below (zg_Q G none S1) args s 0 0 (zg_A G)) (F0 m 15 ls [.int z0, .ref (zg_q G 40)]) := by
  unfold zj_X11_reset_15 at h
  obtain ⟨v1, S2, hc, h⟩ := zc_b2_x h
  refine zr_callVi C w 40 (zw_g40 G _) rfl (As := [.int z0]) (zm_X11_refuses l G _ _ _ _ hc) zm_c_X11_refuses zm_l_X11_91 zm_i_X11_refuses zm_e_X11_refuses zm_0_X11 zm_d_X11_refuses ⟨rfl, rfl⟩ ⟨Nat.le_of_ble_eq_true rfl, Nat.le_of_ble_eq_true rfl⟩ hl.1 rfl rfl (Nat.le_of_ble_eq_true rfl) dX11_reset_15 ⟨Nat.le_of_ble_eq_true rfl, Nat.le_of_ble_eq_true rfl⟩ (fun H locs w => ?_)
  clear hc
  refine zr_if_eq (tgt := 22) C dX11_reset_18 (by decide) h (fun h => ?_) (fun h => ?_)
  · refine lv_iload_n C.1 C.2.1 dX11_reset_22 rfl (lv_at hl 1 rfl) ?_
    refine lv_iconst (v := 1) C.1 C.2.1 dX11_reset_23 (by decide) ?_
    refine zr_ic_eq (tgt := 73) C dX11_reset_24 (by decide) h (fun h => ?_) (fun h => ?_)
    · exact zq_X11_reset_73 hr C _ _ _ h _ _ _ w (lv_sub hl [0, 1] rfl)
    · refine lv_aload_n C.1 C.2.1 dX11_reset_27 rfl (lv_at hl 0 rfl) ?_
      refine lv_lconst (v := 0) C.1 C.2.1 dX11_reset_28 (by decide) ?_
      refine zr_put C w 40 zm_w_X11 tyX11 tyX11_ok nmX11 (zw_g40 G _) rfl 9 (by decide) zm_f_X11_101 rfl (ty := .long) (by decide +kernel) rfl rfl (Nat.le_of_ble_eq_true rfl) (zw_f40_9 G _ _) dX11_reset_29 h (fun S18 H locs w h => ?_)
      refine lv_aload_n C.1 C.2.1 dX11_reset_32 rfl (lv_at hl 0 rfl) ?_
      refine lv_lconst (v := 0) C.1 C.2.1 dX11_reset_33 (by decide) ?_
      refine zr_put C w 40 zm_w_X11 tyX11 tyX11_ok nmX11 (zw_g40 G _) rfl 10 (by decide) zm_f_X11_107 rfl (ty := .long) (by decide +kernel) rfl rfl (Nat.le_of_ble_eq_true rfl) (zw_f40_10 G _ _) dX11_reset_34 h (fun S19 H locs w h => ?_)
      refine lv_aload_n C.1 C.2.1 dX11_reset_37 rfl (lv_at hl 0 rfl) ?_
      refine lv_lconst (v := 0) C.1 C.2.1 dX11_reset_38 (by decide) ?_
      refine zr_put C w 40 zm_w_X11 tyX11 tyX11_ok nmX11 (zw_g40 G _) rfl 11 (by decide) zm_f_X11_119 rfl (ty := .long) (by decide +kernel) rfl rfl (Nat.le_of_ble_eq_true rfl) (zw_f40_11 G _ _) dX11_reset_39 h (fun S20 H locs w h => ?_)
      refine lv_aload_n C.1 C.2.1 dX11_reset_42 rfl (lv_at hl 0 rfl) ?_
      refine lv_iconst (v := 0) C.1 C.2.1 dX11_reset_43 (by decide) ?_
      refine zr_put C w 40 zm_w_X11 tyX11 tyX11_ok nmX11 (zw_g40 G _) rfl 7 (by decide) zm_f_X11_238 rfl (ty := .int) (by decide +kernel) rfl rfl (Nat.le_of_ble_eq_true rfl) (zw_f40_7 G _ _) dX11_reset_44 h (fun S21 H locs w h => ?_)
      refine lv_aload_n C.1 C.2.1 dX11_reset_47 rfl (lv_at hl 0 rfl) ?_
      refine lv_iconst (v := 0) C.1 C.2.1 dX11_reset_48 (by decide) ?_
      obtain ⟨S22, hc, h⟩ := zc_b1_x h
      refine zr_callVv C w 40 (zw_g40 G _) rfl (As := [.int (0 : Int32)]) (zm_X11_clears l G _ _ _ hc) zm_c_X11_clears zm_l_X11_257 zm_i_X11_clears zm_e_X11_clears zm_0_X11 zm_d_X11_clears ⟨rfl, rfl⟩ ⟨Nat.le_of_ble_eq_true rfl, Nat.le_of_ble_eq_true rfl⟩ hl.1 rfl rfl (Nat.le_of_ble_eq_true rfl) dX11_reset_49 ⟨Nat.le_of_ble_eq_true rfl, Nat.le_of_ble_eq_true rfl⟩ (fun H locs w => ?_)
      clear hc
      refine lv_iconst (v := 0) C.1 C.2.1 dX11_reset_52 (by decide) ?_
      refine lv_istore_n (lv' := [(2, .int (0 : Int32)), (0, .ref (zg_q G 40)), (1, .int y1)]) C.1 C.2.1 dX11_reset_53 rfl hl (by decide) rfl (fun ls hl => ?_)
      obtain ⟨S25, hc, h⟩ := zc_b1_x h
      refine zk_X11_reset_54 C y1 S25 (fun H locs ls w hl => ?_) _ _ _ hc _ _ _ w (lv_sub hl [1, 2, 0] rfl)
      clear hc
      exact zq_X11_reset_73 hr C _ _ _ h _ _ _ w (lv_sub hl [0, 1] rfl)
  · exact zr_retv C w hr dX11_reset_21 (Option.some.inj h)
set_option maxHeartbeats 4000000 in
set_option maxRecDepth 100000 in
theorem zq_X11_reset_10 {p : Program} {l : Launch} {e : Env} {s : State} {m : MethodId} {args : Array Value} {below : List Frame} {meth : Method} {c : Code} {G : zg_T} (hr : meth.sig.returnType = none) (C : zx_C p s m args meth c G RX11 cX11_reset 3) (S1 : zs_T) (S : zs_T) (y1 : Int32) (h : zj_X11_reset_10 S y1 = some S1) (H : Heap) (locs : List Loc) (ls : Array Slot) (w : zg_W G S s H locs) (hl : lv_has ls 3 [(0, .ref (zg_q G 40)), (1, .int y1)]) : W p l e zr_m_X11_reset s m args below meth c H locs 0 0 (MQ below (zg_Q G none S1) args s 0 0 (zg_A G)) (F0 m 10 ls [.ref (zg_q G 40)]) := by
  unfold zj_X11_reset_10 at h
  refine lv_iconst (v := 1) C.1 C.2.1 dX11_reset_10 (by decide) ?_
  refine lv_goto (tgt := 15) C.1 C.2.1 dX11_reset_11 (by decide) ?_
  exact zq_X11_reset_15 hr C _ _ _ _ h _ _ _ w (lv_sub hl [0, 1] rfl)
set_option maxHeartbeats 4000000 in
set_option maxRecDepth 100000 in
theorem zm_X11_reset (l : Launch) (G : zg_T) (S : zs_T) (a1 : Int32) (S1 : zs_T) (h : zf_X11_reset S a1 = some S1) : Met l yX11_reset (Cond.code yX11_reset cX11_reset 3 none :: zt_G) zr_m_X11_reset (va_Pc [.ref (zg_q G 40), .int a1] (zg_P G S)) (zg_Q G none S1) 0 0 (zg_A G) := by
  refine zx_met (by decide +kernel) (Nat.le_of_ble_eq_true rfl) (lv := [(0, .ref (zg_q G 40)), (1, .int a1)]) rfl ?_
  intro p e s m below meth c C hr w ls hl
  replace C : zx_C p s m _ meth c G RX11 cX11_reset 3 := C
  unfold zf_X11_reset at h
  refine lv_aload_n C.1 C.2.1 dX11_reset_0 rfl (lv_at hl 0 rfl) ?_
  refine lv_iload_n C.1 C.2.1 dX11_reset_1 rfl (lv_at hl 1 rfl) ?_
  refine zr_if_lt (tgt := 10) C dX11_reset_2 (by decide) h (fun h => ?_) (fun h => ?_)
  · exact zq_X11_reset_10 hr C _ _ _ h _ _ _ w (lv_sub hl [0, 1] rfl)
  · refine lv_iload_n C.1 C.2.1 dX11_reset_5 rfl (lv_at hl 1 rfl) ?_
    refine lv_iconst (v := 2) C.1 C.2.1 dX11_reset_6 (by decide) ?_
    refine zr_ic_le (tgt := 14) C dX11_reset_7 (by decide) h (fun h => ?_) (fun h => ?_)
    · refine lv_iconst (v := 0) C.1 C.2.1 dX11_reset_14 (by decide) ?_
      exact zq_X11_reset_15 hr C _ _ _ _ h _ _ _ w (lv_sub hl [0, 1] rfl)
    · exact zq_X11_reset_10 hr C _ _ _ h _ _ _ w (lv_sub hl [0, 1] rfl)
set_option maxHeartbeats 4000000 in
set_option maxRecDepth 100000 in
theorem zq_X11_state_67 {p : Program} {l : Launch} {e : Env} {s : State} {m : MethodId} {args : Array Value} {below : List Frame} {meth : Method} {c : Code} {G : zg_T} (hr : meth.sig.returnType = (some .int)) (C : zx_C p s m args meth c G RX11 cX11_state 4) (r : Int32) (S1 : zs_T) (S : zs_T) (y1 : Int32) (y2 : Int32) (z0 : Int32) (h : zj_X11_state_67 S y1 y2 z0 = some (r, S1)) (H : Heap) (locs : List Loc) (ls : Array Slot) (w : zg_W G S s H locs) (hl : lv_has ls 4 [(0, .ref (zg_q G 40)), (1, .int y1), (2, .int y2)]) : W p l e zr_m_X11_state s m args below meth c H locs 0 0 (MQ below (zg_Q G (some (.int r)) S1) args s 0 0 (zg_A G)) (F0 m 67 ls [.int z0, .ref (zg_q G 40)]) := by
  unfold zj_X11_state_67 at h
  obtain ⟨v1, S2, hc, h⟩ := zc_b2_x h
  refine zr_callVi C w 40 (zw_g40 G _) rfl (As := [.int z0]) (zm_X11_refuses l G _ _ _ _ hc) zm_c_X11_refuses zm_l_X11_91 zm_i_X11_refuses zm_e_X11_refuses zm_0_X11 zm_d_X11_refuses ⟨rfl, rfl⟩ ⟨Nat.le_of_ble_eq_true rfl, Nat.le_of_ble_eq_true rfl⟩ hl.1 rfl rfl (Nat.le_of_ble_eq_true rfl) dX11_state_67 ⟨Nat.le_of_ble_eq_true rfl, Nat.le_of_ble_eq_true rfl⟩ (fun H locs w => ?_)
  clear hc
  refine zr_if_eq (tgt := 75) C dX11_state_70 (by decide) h (fun h => ?_) (fun h => ?_)
  · refine lv_iload_n C.1 C.2.1 dX11_state_75 rfl (lv_at hl 1 rfl) ?_
    by_cases c0 : y1 = (0 : Int32)
    · replace h := (if_pos c0).symm.trans h
      refine lv_tableIn (tgt := 120) C.1 C.2.1 dX11_state_76 (by rw [c0]; decide) (by rw [c0]; decide) (by rw [c0]; rfl) (by decide) ?_
      refine lv_aload_n C.1 C.2.1 dX11_state_120 rfl (lv_at hl 0 rfl) ?_
      refine zr_get C w 40 zm_w_X11 (zw_g40 G _) rfl 12 (by decide) zm_f_X11_23 rfl dX11_state_121 ?_
      refine lv_bipush (v := 8) C.1 C.2.1 dX11_state_124 (by decide) ?_
      refine lv_iload_n C.1 C.2.1 dX11_state_126 rfl (lv_at hl 1 rfl) ?_
      refine lv_imul C.1 C.2.1 dX11_state_127 ?_
      refine lv_iload_n C.1 C.2.1 dX11_state_128 rfl (lv_at hl 2 rfl) ?_
      refine lv_iadd C.1 C.2.1 dX11_state_129 ?_
      refine zr_lald C w 45 (zw_g45 G _) dX11_state_130 h (fun h => ?_)
      refine lv_l2i C.1 C.2.1 dX11_state_131 rfl ?_
      exact zr_reti C w hr dX11_state_132 (congrArg Prod.fst (Option.some.inj h)) (congrArg Prod.snd (Option.some.inj h))
    replace h := (if_neg c0).symm.trans h
    by_cases c1 : y1 = (1 : Int32)
    · replace h := (if_pos c1).symm.trans h
      refine lv_tableIn (tgt := 120) C.1 C.2.1 dX11_state_76 (by rw [c1]; decide) (by rw [c1]; decide) (by rw [c1]; rfl) (by decide) ?_
      refine lv_aload_n C.1 C.2.1 dX11_state_120 rfl (lv_at hl 0 rfl) ?_
      refine zr_get C w 40 zm_w_X11 (zw_g40 G _) rfl 12 (by decide) zm_f_X11_23 rfl dX11_state_121 ?_
      refine lv_bipush (v := 8) C.1 C.2.1 dX11_state_124 (by decide) ?_
      refine lv_iload_n C.1 C.2.1 dX11_state_126 rfl (lv_at hl 1 rfl) ?_
      refine lv_imul C.1 C.2.1 dX11_state_127 ?_
      refine lv_iload_n C.1 C.2.1 dX11_state_128 rfl (lv_at hl 2 rfl) ?_
      refine lv_iadd C.1 C.2.1 dX11_state_129 ?_
      refine zr_lald C w 45 (zw_g45 G _) dX11_state_130 h (fun h => ?_)
      refine lv_l2i C.1 C.2.1 dX11_state_131 rfl ?_
      exact zr_reti C w hr dX11_state_132 (congrArg Prod.fst (Option.some.inj h)) (congrArg Prod.snd (Option.some.inj h))
    replace h := (if_neg c1).symm.trans h
    by_cases c2 : y1 = (2 : Int32)
    · replace h := (if_pos c2).symm.trans h
      refine lv_tableIn (tgt := 133) C.1 C.2.1 dX11_state_76 (by rw [c2]; decide) (by rw [c2]; decide) (by rw [c2]; rfl) (by decide) ?_
      refine lv_aload_n C.1 C.2.1 dX11_state_133 rfl (lv_at hl 0 rfl) ?_
      refine zr_get C w 40 zm_w_X11 (zw_g40 G _) rfl 15 (by decide) zm_f_X11_32 rfl dX11_state_134 ?_
      refine lv_sipush (v := 280) C.1 C.2.1 dX11_state_137 (by decide) ?_
      refine lv_iload_n C.1 C.2.1 dX11_state_140 rfl (lv_at hl 1 rfl) ?_
      refine lv_iconst (v := 2) C.1 C.2.1 dX11_state_141 (by decide) ?_
      refine lv_isub C.1 C.2.1 dX11_state_142 ?_
      refine lv_imul C.1 C.2.1 dX11_state_143 ?_
      refine lv_iload_n C.1 C.2.1 dX11_state_144 rfl (lv_at hl 2 rfl) ?_
      refine lv_iadd C.1 C.2.1 dX11_state_145 ?_
      refine zr_lald C w 48 (zw_g48 G _) dX11_state_146 h (fun h => ?_)
      refine lv_l2i C.1 C.2.1 dX11_state_147 rfl ?_
      exact zr_reti C w hr dX11_state_148 (congrArg Prod.fst (Option.some.inj h)) (congrArg Prod.snd (Option.some.inj h))
    replace h := (if_neg c2).symm.trans h
    by_cases c3 : y1 = (3 : Int32)
    · replace h := (if_pos c3).symm.trans h
      refine lv_tableIn (tgt := 133) C.1 C.2.1 dX11_state_76 (by rw [c3]; decide) (by rw [c3]; decide) (by rw [c3]; rfl) (by decide) ?_
      refine lv_aload_n C.1 C.2.1 dX11_state_133 rfl (lv_at hl 0 rfl) ?_
      refine zr_get C w 40 zm_w_X11 (zw_g40 G _) rfl 15 (by decide) zm_f_X11_32 rfl dX11_state_134 ?_
      refine lv_sipush (v := 280) C.1 C.2.1 dX11_state_137 (by decide) ?_
      refine lv_iload_n C.1 C.2.1 dX11_state_140 rfl (lv_at hl 1 rfl) ?_
      refine lv_iconst (v := 2) C.1 C.2.1 dX11_state_141 (by decide) ?_
      refine lv_isub C.1 C.2.1 dX11_state_142 ?_
      refine lv_imul C.1 C.2.1 dX11_state_143 ?_
      refine lv_iload_n C.1 C.2.1 dX11_state_144 rfl (lv_at hl 2 rfl) ?_
      refine lv_iadd C.1 C.2.1 dX11_state_145 ?_
      refine zr_lald C w 48 (zw_g48 G _) dX11_state_146 h (fun h => ?_)
      refine lv_l2i C.1 C.2.1 dX11_state_147 rfl ?_
      exact zr_reti C w hr dX11_state_148 (congrArg Prod.fst (Option.some.inj h)) (congrArg Prod.snd (Option.some.inj h))
    replace h := (if_neg c3).symm.trans h
    by_cases c4 : y1 = (4 : Int32)
    · replace h := (if_pos c4).symm.trans h
      refine lv_tableIn (tgt := 149) C.1 C.2.1 dX11_state_76 (by rw [c4]; decide) (by rw [c4]; decide) (by rw [c4]; rfl) (by decide) ?_
      refine lv_aload_n C.1 C.2.1 dX11_state_149 rfl (lv_at hl 0 rfl) ?_
      refine zr_get C w 40 zm_w_X11 (zw_g40 G _) rfl 13 (by decide) zm_f_X11_26 rfl dX11_state_150 ?_
      refine lv_iload_n C.1 C.2.1 dX11_state_153 rfl (lv_at hl 2 rfl) ?_
      refine lv_iconst (v := 1) C.1 C.2.1 dX11_state_154 (by decide) ?_
      refine lv_iadd C.1 C.2.1 dX11_state_155 ?_
      refine zr_lald C w 46 (zw_g46 G _) dX11_state_156 h (fun h => ?_)
      refine lv_l2i C.1 C.2.1 dX11_state_157 rfl ?_
      exact zr_reti C w hr dX11_state_158 (congrArg Prod.fst (Option.some.inj h)) (congrArg Prod.snd (Option.some.inj h))
    replace h := (if_neg c4).symm.trans h
    by_cases c5 : y1 = (5 : Int32)
    · replace h := (if_pos c5).symm.trans h
      refine lv_tableIn (tgt := 159) C.1 C.2.1 dX11_state_76 (by rw [c5]; decide) (by rw [c5]; decide) (by rw [c5]; rfl) (by decide) ?_
      refine lv_aload_n C.1 C.2.1 dX11_state_159 rfl (lv_at hl 0 rfl) ?_
      refine zr_get C w 40 zm_w_X11 (zw_g40 G _) rfl 14 (by decide) zm_f_X11_29 rfl dX11_state_160 ?_
      refine lv_iload_n C.1 C.2.1 dX11_state_163 rfl (lv_at hl 2 rfl) ?_
      refine zr_lald C w 47 (zw_g47 G _) dX11_state_164 h (fun h => ?_)
      refine lv_l2i C.1 C.2.1 dX11_state_165 rfl ?_
      exact zr_reti C w hr dX11_state_166 (congrArg Prod.fst (Option.some.inj h)) (congrArg Prod.snd (Option.some.inj h))
    replace h := (if_neg c5).symm.trans h
    by_cases c6 : y1 = (6 : Int32)
    · replace h := (if_pos c6).symm.trans h
      refine lv_tableIn (tgt := 167) C.1 C.2.1 dX11_state_76 (by rw [c6]; decide) (by rw [c6]; decide) (by rw [c6]; rfl) (by decide) ?_
      refine lv_iload_n C.1 C.2.1 dX11_state_167 rfl (lv_at hl 2 rfl) ?_
      refine zr_if_ne (tgt := 178) C dX11_state_168 (by decide) h (fun h => ?_) (fun h => ?_)
      · refine lv_iload_n C.1 C.2.1 dX11_state_178 rfl (lv_at hl 2 rfl) ?_
        refine lv_iconst (v := 1) C.1 C.2.1 dX11_state_179 (by decide) ?_
        refine zr_ic_ne (tgt := 190) C dX11_state_180 (by decide) h (fun h => ?_) (fun h => ?_)
        · refine lv_aload_n C.1 C.2.1 dX11_state_190 rfl (lv_at hl 0 rfl) ?_
          refine zr_get C w 40 zm_w_X11 (zw_g40 G _) rfl 11 (by decide) zm_f_X11_119 rfl dX11_state_191 ?_
          refine lv_l2i C.1 C.2.1 dX11_state_194 rfl ?_
          exact zr_reti C w hr dX11_state_195 (congrArg Prod.fst (Option.some.inj h)) (congrArg Prod.snd (Option.some.inj h))
        · refine lv_aload_n C.1 C.2.1 dX11_state_183 rfl (lv_at hl 0 rfl) ?_
          refine zr_get C w 40 zm_w_X11 (zw_g40 G _) rfl 10 (by decide) zm_f_X11_107 rfl dX11_state_184 ?_
          refine lv_goto (tgt := 194) C.1 C.2.1 dX11_state_187 (by decide) ?_
          refine lv_l2i C.1 C.2.1 dX11_state_194 rfl ?_
          exact zr_reti C w hr dX11_state_195 (congrArg Prod.fst (Option.some.inj h)) (congrArg Prod.snd (Option.some.inj h))
      · refine lv_aload_n C.1 C.2.1 dX11_state_171 rfl (lv_at hl 0 rfl) ?_
        refine zr_get C w 40 zm_w_X11 (zw_g40 G _) rfl 9 (by decide) zm_f_X11_101 rfl dX11_state_172 ?_
        refine lv_goto (tgt := 194) C.1 C.2.1 dX11_state_175 (by decide) ?_
        refine lv_l2i C.1 C.2.1 dX11_state_194 rfl ?_
        exact zr_reti C w hr dX11_state_195 (congrArg Prod.fst (Option.some.inj h)) (congrArg Prod.snd (Option.some.inj h))
    replace h := (if_neg c6).symm.trans h
    refine lv_tableOut (tgt := 196) C.1 C.2.1 dX11_state_76 (by have q0 := lv_neT (a := 0) c0 rfl; have q1 := lv_neT (a := 1) c1 rfl; have q2 := lv_neT (a := 2) c2 rfl; have q3 := lv_neT (a := 3) c3 rfl; have q4 := lv_neT (a := 4) c4 rfl; have q5 := lv_neT (a := 5) c5 rfl; have q6 := lv_neT (a := 6) c6 rfl; omega) (by decide) ?_
    refine lv_iload_n C.1 C.2.1 dX11_state_196 rfl (lv_at hl 2 rfl) ?_
    refine zr_if_ne (tgt := 207) C dX11_state_197 (by decide) h (fun h => ?_) (fun h => ?_)
    · refine lv_aload_n C.1 C.2.1 dX11_state_207 rfl (lv_at hl 0 rfl) ?_
      refine zr_get C w 40 zm_w_X11 (zw_g40 G _) rfl 17 (by decide) zm_f_X11_249 rfl dX11_state_208 ?_
      refine lv_l2i C.1 C.2.1 dX11_state_211 rfl ?_
      exact zr_reti C w hr dX11_state_212 (congrArg Prod.fst (Option.some.inj h)) (congrArg Prod.snd (Option.some.inj h))
    · refine lv_aload_n C.1 C.2.1 dX11_state_200 rfl (lv_at hl 0 rfl) ?_
      refine zr_get C w 40 zm_w_X11 (zw_g40 G _) rfl 16 (by decide) zm_f_X11_35 rfl dX11_state_201 ?_
      refine lv_goto (tgt := 212) C.1 C.2.1 dX11_state_204 (by decide) ?_
      exact zr_reti C w hr dX11_state_212 (congrArg Prod.fst (Option.some.inj h)) (congrArg Prod.snd (Option.some.inj h))
  · refine lv_iconst (v := 0) C.1 C.2.1 dX11_state_73 (by decide) ?_
    exact zr_reti C w hr dX11_state_74 (congrArg Prod.fst (Option.some.inj h)) (congrArg Prod.snd (Option.some.inj h))
set_option maxHeartbeats 4000000 in
set_option maxRecDepth 100000 in
theorem zq_X11_state_62 {p : Program} {l : Launch} {e : Env} {s : State} {m : MethodId} {args : Array Value} {below : List Frame} {meth : Method} {c : Code} {G : zg_T} (hr : meth.sig.returnType = (some .int)) (C : zx_C p s m args meth c G RX11 cX11_state 4) (r : Int32) (S1 : zs_T) (S : zs_T) (y1 : Int32) (y2 : Int32) (h : zj_X11_state_62 S y1 y2 = some (r, S1)) (H : Heap) (locs : List Loc) (ls : Array Slot) (w : zg_W G S s H locs) (hl : lv_has ls 4 [(0, .ref (zg_q G 40)), (1, .int y1), (2, .int y2)]) : W p l e zr_m_X11_state s m args below meth c H locs 0 0 (MQ below (zg_Q G (some (.int r)) S1) args s 0 0 (zg_A G)) (F0 m 62 ls [.ref (zg_q G 40)]) := by
  unfold zj_X11_state_62 at h
  refine lv_iconst (v := 1) C.1 C.2.1 dX11_state_62 (by decide) ?_
  refine lv_goto (tgt := 67) C.1 C.2.1 dX11_state_63 (by decide) ?_
  exact zq_X11_state_67 hr C _ _ _ _ _ _ h _ _ _ w (lv_sub hl [0, 1, 2] rfl)
set_option maxHeartbeats 4000000 in
set_option maxRecDepth 100000 in
theorem zq_X11_state_51 {p : Program} {l : Launch} {e : Env} {s : State} {m : MethodId} {args : Array Value} {below : List Frame} {meth : Method} {c : Code} {G : zg_T} (hr : meth.sig.returnType = (some .int)) (C : zx_C p s m args meth c G RX11 cX11_state 4) (r : Int32) (S1 : zs_T) (S : zs_T) (y1 : Int32) (y2 : Int32) (z0 : Int32) (h : zj_X11_state_51 S y1 y2 z0 = some (r, S1)) (H : Heap) (locs : List Loc) (ls : Array Slot) (w : zg_W G S s H locs) (hl : lv_has ls 4 [(0, .ref (zg_q G 40)), (1, .int y1), (2, .int y2)]) : W p l e zr_m_X11_state s m args below meth c H locs 0 0 (MQ below (zg_Q G (some (.int r)) S1) args s 0 0 (zg_A G)) (F0 m 51 ls [.int z0]) := by
  unfold zj_X11_state_51 at h
  refine lv_istore_n (lv' := [(3, .int z0), (0, .ref (zg_q G 40)), (1, .int y1), (2, .int y2)]) C.1 C.2.1 dX11_state_51 rfl hl (by decide) rfl (fun ls hl => ?_)
  refine lv_aload_n C.1 C.2.1 dX11_state_52 rfl (lv_at hl 1 rfl) ?_
  refine lv_iload_n C.1 C.2.1 dX11_state_53 rfl (lv_at hl 3 rfl) ?_
  refine zr_if_lt (tgt := 62) C dX11_state_54 (by decide) h (fun h => ?_) (fun h => ?_)
  · exact zq_X11_state_62 hr C _ _ _ _ _ h _ _ _ w (lv_sub hl [1, 2, 3] rfl)
  · refine lv_iload_n C.1 C.2.1 dX11_state_57 rfl (lv_at hl 3 rfl) ?_
    refine lv_iload_n C.1 C.2.1 dX11_state_58 rfl (lv_at hl 0 rfl) ?_
    refine zr_ic_lt (tgt := 66) C dX11_state_59 (by decide) h (fun h => ?_) (fun h => ?_)
    · refine lv_iconst (v := 0) C.1 C.2.1 dX11_state_66 (by decide) ?_
      exact zq_X11_state_67 hr C _ _ _ _ _ _ h _ _ _ w (lv_sub hl [1, 2, 3] rfl)
    · exact zq_X11_state_62 hr C _ _ _ _ _ h _ _ _ w (lv_sub hl [1, 2, 3] rfl)
set_option maxHeartbeats 4000000 in
set_option maxRecDepth 100000 in
theorem zq_X11_state_10 {p : Program} {l : Launch} {e : Env} {s : State} {m : MethodId} {args : Array Value} {below : List Frame} {meth : Method} {c : Code} {G : zg_T} (hr : meth.sig.returnType = (some .int)) (C : zx_C p s m args meth c G RX11 cX11_state 4) (r : Int32) (S1 : zs_T) (S : zs_T) (y1 : Int32) (y2 : Int32) (h : zj_X11_state_10 S y1 y2 = some (r, S1)) (H : Heap) (locs : List Loc) (ls : Array Slot) (w : zg_W G S s H locs) (hl : lv_has ls 4 [(0, .ref (zg_q G 40)), (1, .int y1), (2, .int y2)]) : W p l e zr_m_X11_state s m args below meth c H locs 0 0 (MQ below (zg_Q G (some (.int r)) S1) args s 0 0 (zg_A G)) (F0 m 10 ls []) := by
  unfold zj_X11_state_10 at h
  refine lv_iconst (v := 0) C.1 C.2.1 dX11_state_10 (by decide) ?_
  refine lv_goto (tgt := 51) C.1 C.2.1 dX11_state_11 (by decide) ?_
  exact zq_X11_state_51 hr C _ _ _ _ _ _ h _ _ _ w (lv_sub hl [0, 1, 2] rfl)
set_option maxHeartbeats 4000000 in
set_option maxRecDepth 100000 in
theorem zq_X11_state_24 {p : Program} {l : Launch} {e : Env} {s : State} {m : MethodId} {args : Array Value} {below : List Frame} {meth : Method} {c : Code} {G : zg_T} (hr : meth.sig.returnType = (some .int)) (C : zx_C p s m args meth c G RX11 cX11_state 4) (r : Int32) (S1 : zs_T) (S : zs_T) (y1 : Int32) (y2 : Int32) (h : zj_X11_state_24 S y1 y2 = some (r, S1)) (H : Heap) (locs : List Loc) (ls : Array Slot) (w : zg_W G S s H locs) (hl : lv_has ls 4 [(0, .ref (zg_q G 40)), (1, .int y1), (2, .int y2)]) : W p l e zr_m_X11_state s m args below meth c H locs 0 0 (MQ below (zg_Q G (some (.int r)) S1) args s 0 0 (zg_A G)) (F0 m 24 ls []) := by
  unfold zj_X11_state_24 at h
  refine lv_bipush (v := 120) C.1 C.2.1 dX11_state_24 (by decide) ?_
  refine lv_goto (tgt := 51) C.1 C.2.1 dX11_state_26 (by decide) ?_
  exact zq_X11_state_51 hr C _ _ _ _ _ _ h _ _ _ w (lv_sub hl [0, 1, 2] rfl)
set_option maxHeartbeats 4000000 in
set_option maxRecDepth 100000 in
theorem zm_X11_state (l : Launch) (G : zg_T) (S : zs_T) (a1 : Int32) (a2 : Int32) (r : Int32) (S1 : zs_T) (h : zf_X11_state S a1 a2 = some (r, S1)) : Met l yX11_state (Cond.code yX11_state cX11_state 4 (some .int) :: zt_G) zr_m_X11_state (va_Pc [.ref (zg_q G 40), .int a1, .int a2] (zg_P G S)) (zg_Q G (some (.int r)) S1) 0 0 (zg_A G) := by
  refine zx_met (by decide +kernel) (Nat.le_of_ble_eq_true rfl) (lv := [(0, .ref (zg_q G 40)), (1, .int a1), (2, .int a2)]) rfl ?_
  intro p e s m below meth c C hr w ls hl
  replace C : zx_C p s m _ meth c G RX11 cX11_state 4 := C
  unfold zf_X11_state at h
  refine lv_iload_n C.1 C.2.1 dX11_state_0 rfl (lv_at hl 1 rfl) ?_
  refine zr_if_lt (tgt := 10) C dX11_state_1 (by decide) h (fun h => ?_) (fun h => ?_)
  · exact zq_X11_state_10 hr C _ _ _ _ _ h _ _ _ w (lv_sub hl [0, 1, 2] rfl)
  · refine lv_iload_n C.1 C.2.1 dX11_state_4 rfl (lv_at hl 1 rfl) ?_
    refine lv_bipush (v := 7) C.1 C.2.1 dX11_state_5 (by decide) ?_
    refine zr_ic_le (tgt := 14) C dX11_state_7 (by decide) h (fun h => ?_) (fun h => ?_)
    · refine lv_iload_n C.1 C.2.1 dX11_state_14 rfl (lv_at hl 1 rfl) ?_
      refine lv_iconst (v := 2) C.1 C.2.1 dX11_state_15 (by decide) ?_
      refine zr_ic_eq (tgt := 24) C dX11_state_16 (by decide) h (fun h => ?_) (fun h => ?_)
      · exact zq_X11_state_24 hr C _ _ _ _ _ h _ _ _ w (lv_sub hl [0, 1, 2] rfl)
      · refine lv_iload_n C.1 C.2.1 dX11_state_19 rfl (lv_at hl 1 rfl) ?_
        refine lv_iconst (v := 3) C.1 C.2.1 dX11_state_20 (by decide) ?_
        refine zr_ic_ne (tgt := 29) C dX11_state_21 (by decide) h (fun h => ?_) (fun h => ?_)
        · refine lv_iload_n C.1 C.2.1 dX11_state_29 rfl (lv_at hl 1 rfl) ?_
          refine lv_bipush (v := 6) C.1 C.2.1 dX11_state_30 (by decide) ?_
          refine zr_ic_ne (tgt := 39) C dX11_state_32 (by decide) h (fun h => ?_) (fun h => ?_)
          · refine lv_iload_n C.1 C.2.1 dX11_state_39 rfl (lv_at hl 1 rfl) ?_
            refine lv_bipush (v := 7) C.1 C.2.1 dX11_state_40 (by decide) ?_
            refine zr_ic_ne (tgt := 49) C dX11_state_42 (by decide) h (fun h => ?_) (fun h => ?_)
            · refine lv_bipush (v := 8) C.1 C.2.1 dX11_state_49 (by decide) ?_
              exact zq_X11_state_51 hr C _ _ _ _ _ _ h _ _ _ w (lv_sub hl [0, 1, 2] rfl)
            · refine lv_iconst (v := 2) C.1 C.2.1 dX11_state_45 (by decide) ?_
              refine lv_goto (tgt := 51) C.1 C.2.1 dX11_state_46 (by decide) ?_
              exact zq_X11_state_51 hr C _ _ _ _ _ _ h _ _ _ w (lv_sub hl [0, 1, 2] rfl)
          · refine lv_iconst (v := 3) C.1 C.2.1 dX11_state_35 (by decide) ?_
            refine lv_goto (tgt := 51) C.1 C.2.1 dX11_state_36 (by decide) ?_
            exact zq_X11_state_51 hr C _ _ _ _ _ _ h _ _ _ w (lv_sub hl [0, 1, 2] rfl)
        · exact zq_X11_state_24 hr C _ _ _ _ _ h _ _ _ w (lv_sub hl [0, 1, 2] rfl)
    · exact zq_X11_state_10 hr C _ _ _ _ _ h _ _ _ w (lv_sub hl [0, 1, 2] rfl)
set_option maxHeartbeats 4000000 in
set_option maxRecDepth 100000 in
theorem zq_X11_about_15 {p : Program} {l : Launch} {e : Env} {s : State} {m : MethodId} {args : Array Value} {below : List Frame} {meth : Method} {c : Code} {G : zg_T} (hr : meth.sig.returnType = (some .int)) (C : zx_C p s m args meth c G RX11 cX11_about 2) (r : Int32) (S1 : zs_T) (S : zs_T) (y1 : Int32) (z0 : Int32) (h : zj_X11_about_15 S y1 z0 = some (r, S1)) (H : Heap) (locs : List Loc) (ls : Array Slot) (w : zg_W G S s H locs) (hl : lv_has ls 2 [(0, .ref (zg_q G 40)), (1, .int y1)]) : W p l e zr_m_X11_about s m args below meth c H locs 0 0 (MQ below (zg_Q G (some (.int r)) S1) args s 0 0 (zg_A G)) (F0 m 15 ls [.int z0, .ref (zg_q G 40)]) := by
  unfold zj_X11_about_15 at h
  obtain ⟨v1, S2, hc, h⟩ := zc_b2_x h
  refine zr_callVi C w 40 (zw_g40 G _) rfl (As := [.int z0]) (zm_X11_refuses l G _ _ _ _ hc) zm_c_X11_refuses zm_l_X11_91 zm_i_X11_refuses zm_e_X11_refuses zm_0_X11 zm_d_X11_refuses ⟨rfl, rfl⟩ ⟨Nat.le_of_ble_eq_true rfl, Nat.le_of_ble_eq_true rfl⟩ hl.1 rfl rfl (Nat.le_of_ble_eq_true rfl) dX11_about_15 ⟨Nat.le_of_ble_eq_true rfl, Nat.le_of_ble_eq_true rfl⟩ (fun H locs w => ?_)
  clear hc
  refine zr_if_eq (tgt := 23) C dX11_about_18 (by decide) h (fun h => ?_) (fun h => ?_)
  · refine lv_iload_n C.1 C.2.1 dX11_about_23 rfl (lv_at hl 1 rfl) ?_
    refine zr_if_ne (tgt := 34) C dX11_about_24 (by decide) h (fun h => ?_) (fun h => ?_)
    · refine lv_iload_n C.1 C.2.1 dX11_about_34 rfl (lv_at hl 1 rfl) ?_
      refine lv_iconst (v := 1) C.1 C.2.1 dX11_about_35 (by decide) ?_
      refine zr_ic_ne (tgt := 46) C dX11_about_36 (by decide) h (fun h => ?_) (fun h => ?_)
      · refine lv_iload_n C.1 C.2.1 dX11_about_46 rfl (lv_at hl 1 rfl) ?_
        refine lv_iconst (v := 2) C.1 C.2.1 dX11_about_47 (by decide) ?_
        refine zr_ic_ne (tgt := 58) C dX11_about_48 (by decide) h (fun h => ?_) (fun h => ?_)
        · refine lv_aload_n C.1 C.2.1 dX11_about_58 rfl (lv_at hl 0 rfl) ?_
          refine zr_get C w 40 zm_w_X11 (zw_g40 G _) rfl 8 (by decide) zm_f_X11_254 rfl dX11_about_59 ?_
          exact zr_reti C w hr dX11_about_62 (congrArg Prod.fst (Option.some.inj h)) (congrArg Prod.snd (Option.some.inj h))
        · refine lv_aload_n C.1 C.2.1 dX11_about_51 rfl (lv_at hl 0 rfl) ?_
          refine zr_get C w 40 zm_w_X11 (zw_g40 G _) rfl 7 (by decide) zm_f_X11_238 rfl dX11_about_52 ?_
          refine lv_goto (tgt := 62) C.1 C.2.1 dX11_about_55 (by decide) ?_
          exact zr_reti C w hr dX11_about_62 (congrArg Prod.fst (Option.some.inj h)) (congrArg Prod.snd (Option.some.inj h))
      · refine lv_aload_n C.1 C.2.1 dX11_about_39 rfl (lv_at hl 0 rfl) ?_
        refine zr_get C w 40 zm_w_X11 (zw_g40 G _) rfl 3 (by decide) zm_f_X11_241 rfl dX11_about_40 ?_
        refine lv_goto (tgt := 62) C.1 C.2.1 dX11_about_43 (by decide) ?_
        exact zr_reti C w hr dX11_about_62 (congrArg Prod.fst (Option.some.inj h)) (congrArg Prod.snd (Option.some.inj h))
    · refine lv_aload_n C.1 C.2.1 dX11_about_27 rfl (lv_at hl 0 rfl) ?_
      refine zr_get C w 40 zm_w_X11 (zw_g40 G _) rfl 1 (by decide) zm_f_X11_88 rfl dX11_about_28 ?_
      refine lv_goto (tgt := 62) C.1 C.2.1 dX11_about_31 (by decide) ?_
      exact zr_reti C w hr dX11_about_62 (congrArg Prod.fst (Option.some.inj h)) (congrArg Prod.snd (Option.some.inj h))
  · refine lv_iconst (v := 0) C.1 C.2.1 dX11_about_21 (by decide) ?_
    exact zr_reti C w hr dX11_about_22 (congrArg Prod.fst (Option.some.inj h)) (congrArg Prod.snd (Option.some.inj h))
set_option maxHeartbeats 4000000 in
set_option maxRecDepth 100000 in
theorem zq_X11_about_10 {p : Program} {l : Launch} {e : Env} {s : State} {m : MethodId} {args : Array Value} {below : List Frame} {meth : Method} {c : Code} {G : zg_T} (hr : meth.sig.returnType = (some .int)) (C : zx_C p s m args meth c G RX11 cX11_about 2) (r : Int32) (S1 : zs_T) (S : zs_T) (y1 : Int32) (h : zj_X11_about_10 S y1 = some (r, S1)) (H : Heap) (locs : List Loc) (ls : Array Slot) (w : zg_W G S s H locs) (hl : lv_has ls 2 [(0, .ref (zg_q G 40)), (1, .int y1)]) : W p l e zr_m_X11_about s m args below meth c H locs 0 0 (MQ below (zg_Q G (some (.int r)) S1) args s 0 0 (zg_A G)) (F0 m 10 ls [.ref (zg_q G 40)]) := by
  unfold zj_X11_about_10 at h
  refine lv_iconst (v := 1) C.1 C.2.1 dX11_about_10 (by decide) ?_
  refine lv_goto (tgt := 15) C.1 C.2.1 dX11_about_11 (by decide) ?_
  exact zq_X11_about_15 hr C _ _ _ _ _ h _ _ _ w (lv_sub hl [0, 1] rfl)
set_option maxHeartbeats 4000000 in
set_option maxRecDepth 100000 in
theorem zm_X11_about (l : Launch) (G : zg_T) (S : zs_T) (a1 : Int32) (r : Int32) (S1 : zs_T) (h : zf_X11_about S a1 = some (r, S1)) : Met l yX11_about (Cond.code yX11_about cX11_about 2 (some .int) :: zt_G) zr_m_X11_about (va_Pc [.ref (zg_q G 40), .int a1] (zg_P G S)) (zg_Q G (some (.int r)) S1) 0 0 (zg_A G) := by
  refine zx_met (by decide +kernel) (Nat.le_of_ble_eq_true rfl) (lv := [(0, .ref (zg_q G 40)), (1, .int a1)]) rfl ?_
  intro p e s m below meth c C hr w ls hl
  replace C : zx_C p s m _ meth c G RX11 cX11_about 2 := C
  unfold zf_X11_about at h
  refine lv_aload_n C.1 C.2.1 dX11_about_0 rfl (lv_at hl 0 rfl) ?_
  refine lv_iload_n C.1 C.2.1 dX11_about_1 rfl (lv_at hl 1 rfl) ?_
  refine zr_if_lt (tgt := 10) C dX11_about_2 (by decide) h (fun h => ?_) (fun h => ?_)
  · exact zq_X11_about_10 hr C _ _ _ _ h _ _ _ w (lv_sub hl [0, 1] rfl)
  · refine lv_iload_n C.1 C.2.1 dX11_about_5 rfl (lv_at hl 1 rfl) ?_
    refine lv_iconst (v := 3) C.1 C.2.1 dX11_about_6 (by decide) ?_
    refine zr_ic_le (tgt := 14) C dX11_about_7 (by decide) h (fun h => ?_) (fun h => ?_)
    · refine lv_iconst (v := 0) C.1 C.2.1 dX11_about_14 (by decide) ?_
      exact zq_X11_about_15 hr C _ _ _ _ _ h _ _ _ w (lv_sub hl [0, 1] rfl)
    · exact zq_X11_about_10 hr C _ _ _ _ h _ _ _ w (lv_sub hl [0, 1] rfl)
