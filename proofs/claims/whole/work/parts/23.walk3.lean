set_option maxHeartbeats 4000000 in
set_option maxRecDepth 100000 in
theorem zk_J7_fill_53178_5_39 {p : Program} {l : Launch} {e : Env} {s : State} {m : MethodId} {args : Array Value} {below : List Frame} {meth : Method} {c : Code} {G : zg_T} {Q : State → Prop} (C : zx_C p s m args meth c G RJ7 cJ7_fill_53178 4) (f1 : Int32) (f3 : Int32) (oS : zs_T) (kont : ∀ (H : Heap) (locs : List Loc) (ls : Array Slot), zg_W G oS s H locs → lv_has ls 4 [] → W p l e zr_m_J7_fill_53178 s m args below meth c H locs 0 0 Q (F0 m 20 ls [])) : ∀ (n : Nat) (S : zs_T) (x2 : Int32), zl_2 (zb_J7_fill_53178_5 39 40 f1 f3) n S x2 = some oS → ∀ (H : Heap) (locs : List Loc) (ls : Array Slot), zg_W G S s H locs → lv_has ls 4 [(0, .ref (zg_q G 39)), (1, .int f1), (2, .int x2), (3, .int f3)] → W p l e zr_m_J7_fill_53178 s m args below meth c H locs 0 0 Q (F0 m 5 ls []) := by
  intro n
  induction n with
  | zero => intro S x2 h; cases h
  | succ n ih =>
    intro S x2 h H locs ls w hl
    replace h : zb_J7_fill_53178_5 39 40 f1 f3 (zl_2 (zb_J7_fill_53178_5 39 40 f1 f3) n) S x2 = some oS := h
    generalize zl_2 (zb_J7_fill_53178_5 39 40 f1 f3) n = rec at ih h
    unfold zb_J7_fill_53178_5 at h
    refine lv_iload_n C.1 C.2.1 dJ7_fill_53178_5 rfl (lv_at hl 2 rfl) ?_
    refine lv_iload_n C.1 C.2.1 dJ7_fill_53178_6 rfl (lv_at hl 3 rfl) ?_
    refine zr_ic_ge (tgt := 20) C dJ7_fill_53178_7 (by decide) h (fun h => ?_) (fun h => ?_)
    · cases h
      exact kont _ _ _ w (lv_sub hl [] rfl)
    · refine lv_aload_n C.1 C.2.1 dJ7_fill_53178_10 rfl (lv_at hl 0 rfl) ?_
      refine lv_iload_n C.1 C.2.1 dJ7_fill_53178_11 rfl (lv_at hl 2 rfl) ?_
      refine lv_iload_n C.1 C.2.1 dJ7_fill_53178_12 rfl (lv_at hl 1 rfl) ?_
      refine zr_iast C w 39 (zw_g39 G _) (zw_s39 G _) dJ7_fill_53178_13 h (fun S2 H locs w h => ?_)
      obtain ⟨v3, e_, h⟩ := zc_lt_x h
      refine lv_iinc (v := v3) (lv' := [(2, .int v3), (0, .ref (zg_q G 39)), (1, .int f1), (3, .int f3)]) C.1 C.2.1 dJ7_fill_53178_14 hl (k := 2) rfl (by subst e_; rfl) (by decide) rfl (fun ls hl => ?_)
      clear e_
      refine lv_goto (tgt := 5) C.1 C.2.1 dJ7_fill_53178_17 (by decide) ?_
      exact ih _ _ h _ _ _ w (lv_sub hl [1, 2, 0, 3] rfl)
set_option maxHeartbeats 4000000 in
set_option maxRecDepth 100000 in
theorem zm_J7_fill_53178_39 (l : Launch) (G : zg_T) (S : zs_T) (a1 : Int32) (S1 : zs_T) (h : zf_J7_fill_53178 39 40 S a1 = some S1) : Met l yJ7_fill_53178 (Cond.code yJ7_fill_53178 cJ7_fill_53178 4 none :: zt_G) zr_m_J7_fill_53178 (va_Pc [.ref (zg_q G 39), .int a1] (zg_P G S)) (zg_Q G none S1) 0 0 (zg_A G) := by
  refine zx_met (by decide +kernel) (Nat.le_of_ble_eq_true rfl) (lv := [(0, .ref (zg_q G 39)), (1, .int a1)]) rfl ?_
  intro p e s m below meth c C hr w ls hl
  replace C : zx_C p s m _ meth c G RJ7 cJ7_fill_53178 4 := C
  unfold zf_J7_fill_53178 at h
  refine lv_iconst (v := 0) C.1 C.2.1 dJ7_fill_53178_0 (by decide) ?_
  refine lv_istore_n (lv' := [(2, .int (0 : Int32)), (0, .ref (zg_q G 39)), (1, .int a1)]) C.1 C.2.1 dJ7_fill_53178_1 rfl hl (by decide) rfl (fun ls hl => ?_)
  refine lv_aload_n C.1 C.2.1 dJ7_fill_53178_2 rfl (lv_at hl 1 rfl) ?_
  refine zr_alen C w 39 (zw_g39 G _) rfl dJ7_fill_53178_3 ?_
  refine zr_lti h (fun v1 h => ?_)
  refine lv_istore_n (lv' := [(3, .int v1), (2, .int (0 : Int32)), (0, .ref (zg_q G 39)), (1, .int a1)]) C.1 C.2.1 dJ7_fill_53178_4 rfl hl (by decide) rfl (fun ls hl => ?_)
  obtain ⟨S4, hc, h⟩ := zc_b1_x h
  refine zk_J7_fill_53178_5_39 C a1 v1 S4 (fun H locs ls w hl => ?_) _ _ _ hc _ _ _ w (lv_sub hl [2, 3, 1, 0] rfl)
  clear hc
  exact zr_retv C w hr dJ7_fill_53178_20 (Option.some.inj h)
set_option maxHeartbeats 4000000 in
set_option maxRecDepth 100000 in
theorem zq_X7_made_19_38 {p : Program} {l : Launch} {e : Env} {s : State} {m : MethodId} {args : Array Value} {below : List Frame} {meth : Method} {c : Code} {G : zg_T} (hr : meth.sig.returnType = (some .int)) (C : zx_C p s m args meth c G RX7 cX7_made 4) (r : Int32) (S : zs_T) (y1 : Int32) (z0 : Int32) (h : zj_X7_made_19 38 S y1 z0 = some r) (H : Heap) (locs : List Loc) (ls : Array Slot) (w : zg_W G S s H locs) (hl : lv_has ls 4 [(0, .ref (zg_q G 38)), (1, .int y1)]) : W p l e zr_m_X7_made s m args below meth c H locs 0 0 (MQ below (zg_Q G (some (.int r)) S) args s 0 0 (zg_A G)) (F0 m 19 ls [.int z0]) := by
  unfold zj_X7_made_19 at h
  refine lv_istore_n (lv' := [(2, .int z0), (0, .ref (zg_q G 38)), (1, .int y1)]) C.1 C.2.1 dX7_made_19 rfl hl (by decide) rfl (fun ls hl => ?_)
  refine zr_gets C w 12 (by decide) zm_f_X7_45 dX7_made_20 ?_
  refine lv_aload_n C.1 C.2.1 dX7_made_23 rfl (lv_at hl 1 rfl) ?_
  refine zr_get C w 38 zm_w_X7 (zw_g38 G _) rfl 2 (by decide) zm_f_X7_19 rfl dX7_made_24 ?_
  refine zr_tab C w 12 (by decide) (n := 8) rfl (g := zt_v12) rfl dX7_made_27 h (fun h => ?_)
  refine lv_iconst (v := 2) C.1 C.2.1 dX7_made_28 (by decide) ?_
  refine lv_iload_n C.1 C.2.1 dX7_made_29 rfl (lv_at hl 2 rfl) ?_
  refine lv_imul C.1 C.2.1 dX7_made_30 ?_
  refine lv_bipush (v := 7) C.1 C.2.1 dX7_made_31 (by decide) ?_
  refine lv_isub C.1 C.2.1 dX7_made_33 ?_
  refine lv_sipush (v := 4096) C.1 C.2.1 dX7_made_34 (by decide) ?_
  refine lv_imul C.1 C.2.1 dX7_made_37 ?_
  refine zr_callSi C w (As := [.int (zt_v12 (Int32.toNatClampNeg (S.1 38 2))), .int ((((2 : Int32) * y1) - (7 : Int32)) * (4096 : Int32))]) (zm_X4_rounded l G _ _ _ _ rfl) zm_c_X4_rounded zm_l_X7_48 zm_s_X4_rounded zm_0_X4 zm_d_X4_rounded ⟨rfl, rfl⟩ ⟨Nat.le_of_ble_eq_true rfl, Nat.le_of_ble_eq_true rfl⟩ hl.1 rfl rfl (Nat.le_of_ble_eq_true rfl) dX7_made_38 ⟨Nat.le_of_ble_eq_true rfl, Nat.le_of_ble_eq_true rfl⟩ (fun H locs w => ?_)
  refine zr_lti h (fun v1 h => ?_)
  refine lv_istore_n (lv' := [(3, .int v1), (2, .int z0), (0, .ref (zg_q G 38)), (1, .int y1)]) C.1 C.2.1 dX7_made_41 rfl hl (by decide) rfl (fun ls hl => ?_)
  refine lv_iload_n C.1 C.2.1 dX7_made_42 rfl (lv_at hl 0 rfl) ?_
  refine lv_iload_n C.1 C.2.1 dX7_made_43 rfl (lv_at hl 1 rfl) ?_
  refine lv_iadd C.1 C.2.1 dX7_made_44 ?_
  refine zr_callSi C w (As := [.int (v1 + z0)]) (zm_X4_cut l G _ _ _ rfl) zm_c_X4_cut zm_l_X7_51 zm_s_X4_cut zm_0_X4 zm_d_X4_cut ⟨rfl, rfl⟩ ⟨Nat.le_of_ble_eq_true rfl, Nat.le_of_ble_eq_true rfl⟩ hl.1 rfl rfl (Nat.le_of_ble_eq_true rfl) dX7_made_45 ⟨Nat.le_of_ble_eq_true rfl, Nat.le_of_ble_eq_true rfl⟩ (fun H locs w => ?_)
  refine zr_lti h (fun v2 h => ?_)
  refine lv_aload_n C.1 C.2.1 dX7_made_48 rfl (lv_at hl 2 rfl) ?_
  refine zr_get C w 38 zm_w_X7 (zw_g38 G _) rfl 1 (by decide) zm_f_X7_15 rfl dX7_made_49 ?_
  refine lv_ishr C.1 C.2.1 dX7_made_52 ?_
  exact zr_reti C w hr dX7_made_53 (Option.some.inj h) rfl
set_option maxHeartbeats 4000000 in
set_option maxRecDepth 100000 in
theorem zm_X7_made_38 (l : Launch) (G : zg_T) (S : zs_T) (a1 : Int32) (r : Int32) (h : zf_X7_made 38 S a1 = some r) : Met l yX7_made (Cond.code yX7_made cX7_made 4 (some .int) :: zt_G) zr_m_X7_made (va_Pc [.ref (zg_q G 38), .int a1] (zg_P G S)) (zg_Q G (some (.int r)) S) 0 0 (zg_A G) := by
  refine zx_met (by decide +kernel) (Nat.le_of_ble_eq_true rfl) (lv := [(0, .ref (zg_q G 38)), (1, .int a1)]) rfl ?_
  intro p e s m below meth c C hr w ls hl
  replace C : zx_C p s m _ meth c G RX7 cX7_made 4 := C
  unfold zf_X7_made at h
  refine lv_aload_n C.1 C.2.1 dX7_made_0 rfl (lv_at hl 0 rfl) ?_
  refine zr_get C w 38 zm_w_X7 (zw_g38 G _) rfl 1 (by decide) zm_f_X7_15 rfl dX7_made_1 ?_
  refine zr_if_ne (tgt := 11) C dX7_made_4 (by decide) h (fun h => ?_) (fun h => ?_)
  · refine lv_iconst (v := 1) C.1 C.2.1 dX7_made_11 (by decide) ?_
    refine lv_aload_n C.1 C.2.1 dX7_made_12 rfl (lv_at hl 0 rfl) ?_
    refine zr_get C w 38 zm_w_X7 (zw_g38 G _) rfl 1 (by decide) zm_f_X7_15 rfl dX7_made_13 ?_
    refine lv_iconst (v := 1) C.1 C.2.1 dX7_made_16 (by decide) ?_
    refine lv_isub C.1 C.2.1 dX7_made_17 ?_
    refine lv_ishl C.1 C.2.1 dX7_made_18 ?_
    exact zq_X7_made_19_38 hr C _ _ _ _ h _ _ _ w (lv_sub hl [0, 1] rfl)
  · refine lv_iconst (v := 0) C.1 C.2.1 dX7_made_7 (by decide) ?_
    refine lv_goto (tgt := 19) C.1 C.2.1 dX7_made_8 (by decide) ?_
    exact zq_X7_made_19_38 hr C _ _ _ _ h _ _ _ w (lv_sub hl [0, 1] rfl)
set_option maxHeartbeats 4000000 in
set_option maxRecDepth 100000 in
theorem zk_X7_makeAgain_26_38_3 {p : Program} {l : Launch} {e : Env} {s : State} {m : MethodId} {args : Array Value} {below : List Frame} {meth : Method} {c : Code} {G : zg_T} {Q : State → Prop} (C : zx_C p s m args meth c G RX7 cX7_makeAgain 5) (f2 : Int32) (f3 : Int32) (oS : zs_T) (kont : ∀ (H : Heap) (locs : List Loc) (ls : Array Slot), zg_W G oS s H locs → lv_has ls 5 [] → W p l e zr_m_X7_makeAgain s m args below meth c H locs 0 0 Q (F0 m 62 ls [])) : ∀ (n : Nat) (S : zs_T) (x4 : Int32), zl_2 (zb_X7_makeAgain_26 3 38 39 f2 f3) n S x4 = some oS → ∀ (H : Heap) (locs : List Loc) (ls : Array Slot), zg_W G S s H locs → lv_has ls 5 [(0, .ref (zg_q G 38)), (1, .ref (zg_q G 3)), (2, .int f2), (3, .int f3), (4, .int x4)] → W p l e zr_m_X7_makeAgain s m args below meth c H locs 0 0 Q (F0 m 26 ls []) := by
  intro n
  induction n with
  | zero => intro S x4 h; cases h
  | succ n ih =>
    intro S x4 h H locs ls w hl
    replace h : zb_X7_makeAgain_26 3 38 39 f2 f3 (zl_2 (zb_X7_makeAgain_26 3 38 39 f2 f3) n) S x4 = some oS := h
    generalize zl_2 (zb_X7_makeAgain_26 3 38 39 f2 f3) n = rec at ih h
    unfold zb_X7_makeAgain_26 at h
    refine lv_iload C.1 C.2.1 dX7_makeAgain_26 (lv_at hl 4 rfl) ?_
    refine lv_bipush (v := 13) C.1 C.2.1 dX7_makeAgain_28 (by decide) ?_
    refine zr_ic_ge (tgt := 62) C dX7_makeAgain_30 (by decide) h (fun h => ?_) (fun h => ?_)
    · cases h
      exact kont _ _ _ w (lv_sub hl [] rfl)
    · refine lv_aload_n C.1 C.2.1 dX7_makeAgain_33 rfl (lv_at hl 0 rfl) ?_
      refine zr_get C w 38 zm_w_X7 (zw_g38 G _) rfl 0 (by decide) zm_f_X7_9 rfl dX7_makeAgain_34 ?_
      refine lv_iload_n C.1 C.2.1 dX7_makeAgain_37 rfl (lv_at hl 3 rfl) ?_
      refine lv_iconst (v := 3) C.1 C.2.1 dX7_makeAgain_38 (by decide) ?_
      refine lv_iload C.1 C.2.1 dX7_makeAgain_39 (lv_at hl 4 rfl) ?_
      refine lv_imul C.1 C.2.1 dX7_makeAgain_41 ?_
      refine lv_iadd C.1 C.2.1 dX7_makeAgain_42 ?_
      refine lv_aload_n C.1 C.2.1 dX7_makeAgain_43 rfl (lv_at hl 0 rfl) ?_
      refine lv_aload_n C.1 C.2.1 dX7_makeAgain_44 rfl (lv_at hl 1 rfl) ?_
      refine lv_iload_n C.1 C.2.1 dX7_makeAgain_45 rfl (lv_at hl 2 rfl) ?_
      refine lv_iconst (v := 4) C.1 C.2.1 dX7_makeAgain_46 (by decide) ?_
      refine lv_iadd C.1 C.2.1 dX7_makeAgain_47 ?_
      refine lv_iload C.1 C.2.1 dX7_makeAgain_48 (lv_at hl 4 rfl) ?_
      refine lv_iadd C.1 C.2.1 dX7_makeAgain_50 ?_
      refine zr_iald C w 3 (zw_g3 G _) dX7_makeAgain_51 h (fun h => ?_)
      obtain ⟨v4, hc, h⟩ := zc_b1_x h
      refine zr_callVi C w 38 (zw_g38 G _) rfl (As := [.int (S.1 3 (Int32.toNatClampNeg ((f2 + (4 : Int32)) + x4)))]) (zm_X7_made_38 l G _ _ _ hc) zm_c_X7_made zm_l_X7_41 zm_i_X7_made zm_e_X7_made zm_0_X7 zm_d_X7_made ⟨rfl, rfl⟩ ⟨Nat.le_of_ble_eq_true rfl, Nat.le_of_ble_eq_true rfl⟩ hl.1 rfl rfl (Nat.le_of_ble_eq_true rfl) dX7_makeAgain_52 ⟨Nat.le_of_ble_eq_true rfl, Nat.le_of_ble_eq_true rfl⟩ (fun H locs w => ?_)
      clear hc
      refine zr_iast C w 39 (zw_g39 G _) (zw_s39 G _) dX7_makeAgain_55 h (fun S5 H locs w h => ?_)
      obtain ⟨v6, e_, h⟩ := zc_lt_x h
      refine lv_iinc (v := v6) (lv' := [(4, .int v6), (0, .ref (zg_q G 38)), (1, .ref (zg_q G 3)), (2, .int f2), (3, .int f3)]) C.1 C.2.1 dX7_makeAgain_56 hl (k := 4) rfl (by subst e_; rfl) (by decide) rfl (fun ls hl => ?_)
      clear e_
      refine lv_goto (tgt := 26) C.1 C.2.1 dX7_makeAgain_59 (by decide) ?_
      exact ih _ _ h _ _ _ w (lv_sub hl [1, 2, 3, 4, 0] rfl)
set_option maxHeartbeats 4000000 in
set_option maxRecDepth 100000 in
theorem zm_X7_makeAgain_38_3 (l : Launch) (G : zg_T) (S : zs_T) (a1 : Int32) (S1 : zs_T) (h : zf_X7_makeAgain 3 38 39 S a1 = some S1) : Met l yX7_makeAgain (Cond.code yX7_makeAgain cX7_makeAgain 5 none :: zt_G) zr_m_X7_makeAgain (va_Pc [.ref (zg_q G 38), .ref (zg_q G 3), .int a1] (zg_P G S)) (zg_Q G none S1) 0 0 (zg_A G) := by
  refine zx_met (by decide +kernel) (Nat.le_of_ble_eq_true rfl) (lv := [(0, .ref (zg_q G 38)), (1, .ref (zg_q G 3)), (2, .int a1)]) rfl ?_
  intro p e s m below meth c C hr w ls hl
  replace C : zx_C p s m _ meth c G RX7 cX7_makeAgain 5 := C
  unfold zf_X7_makeAgain at h
  refine lv_aload_n C.1 C.2.1 dX7_makeAgain_0 rfl (lv_at hl 1 rfl) ?_
  refine lv_iload_n C.1 C.2.1 dX7_makeAgain_1 rfl (lv_at hl 2 rfl) ?_
  refine lv_iconst (v := 2) C.1 C.2.1 dX7_makeAgain_2 (by decide) ?_
  refine lv_iadd C.1 C.2.1 dX7_makeAgain_3 ?_
  refine zr_iald C w 3 (zw_g3 G _) dX7_makeAgain_4 h (fun h => ?_)
  refine zr_lti h (fun v1 h => ?_)
  refine lv_istore_n (lv' := [(3, .int v1), (0, .ref (zg_q G 38)), (1, .ref (zg_q G 3)), (2, .int a1)]) C.1 C.2.1 dX7_makeAgain_5 rfl hl (by decide) rfl (fun ls hl => ?_)
  refine lv_aload_n C.1 C.2.1 dX7_makeAgain_6 rfl (lv_at hl 1 rfl) ?_
  refine lv_aload_n C.1 C.2.1 dX7_makeAgain_7 rfl (lv_at hl 2 rfl) ?_
  refine lv_iload_n C.1 C.2.1 dX7_makeAgain_8 rfl (lv_at hl 3 rfl) ?_
  refine lv_iconst (v := 3) C.1 C.2.1 dX7_makeAgain_9 (by decide) ?_
  refine lv_iadd C.1 C.2.1 dX7_makeAgain_10 ?_
  refine zr_iald C w 3 (zw_g3 G _) dX7_makeAgain_11 h (fun h => ?_)
  obtain ⟨S2, hc, h⟩ := zc_b1_x h
  refine zr_callVv C w 38 (zw_g38 G _) rfl (As := [.int (S.1 3 (Int32.toNatClampNeg (a1 + (3 : Int32))))]) (zm_X7_scaleBy_38 l G _ _ _ hc) zm_c_X7_scaleBy zm_l_X7_31 zm_i_X7_scaleBy zm_e_X7_scaleBy zm_0_X7 zm_d_X7_scaleBy ⟨rfl, rfl⟩ ⟨Nat.le_of_ble_eq_true rfl, Nat.le_of_ble_eq_true rfl⟩ hl.1 rfl rfl (Nat.le_of_ble_eq_true rfl) dX7_makeAgain_12 ⟨Nat.le_of_ble_eq_true rfl, Nat.le_of_ble_eq_true rfl⟩ (fun H locs w => ?_)
  clear hc
  refine lv_aload_n C.1 C.2.1 dX7_makeAgain_15 rfl (lv_at hl 1 rfl) ?_
  refine zr_get C w 38 zm_w_X7 (zw_g38 G _) rfl 0 (by decide) zm_f_X7_9 rfl dX7_makeAgain_16 ?_
  refine lv_iconst (v := 0) C.1 C.2.1 dX7_makeAgain_19 (by decide) ?_
  obtain ⟨S3, hc, h⟩ := zc_b1_x h
  refine zr_callSv C w (As := [.ref (zg_q G 39), .int (0 : Int32)]) (zm_J7_fill_53178_39 l G _ _ _ hc) zm_c_J7_fill_53178 zm_l_X7_35 zm_s_J7_fill_53178 zm_0_J7 zm_d_J7_fill_53178 ⟨rfl, rfl⟩ ⟨Nat.le_of_ble_eq_true rfl, Nat.le_of_ble_eq_true rfl⟩ hl.1 rfl rfl (Nat.le_of_ble_eq_true rfl) dX7_makeAgain_20 ⟨Nat.le_of_ble_eq_true rfl, Nat.le_of_ble_eq_true rfl⟩ (fun H locs w => ?_)
  clear hc
  refine lv_iconst (v := 0) C.1 C.2.1 dX7_makeAgain_23 (by decide) ?_
  refine lv_istore (lv' := [(4, .int (0 : Int32)), (3, .int v1), (0, .ref (zg_q G 38)), (1, .ref (zg_q G 3)), (2, .int a1)]) C.1 C.2.1 dX7_makeAgain_24 hl (by decide) rfl (fun ls hl => ?_)
  obtain ⟨S7, hc, h⟩ := zc_b1_x h
  refine zk_X7_makeAgain_26_38_3 C a1 v1 S7 (fun H locs ls w hl => ?_) _ _ _ hc _ _ _ w (lv_sub hl [2, 3, 4, 1, 0] rfl)
  clear hc
  exact zr_retv C w hr dX7_makeAgain_62 (Option.some.inj h)
set_option maxHeartbeats 4000000 in
set_option maxRecDepth 100000 in
theorem zk_X5_look_3_35 {p : Program} {l : Launch} {e : Env} {s : State} {m : MethodId} {args : Array Value} {below : List Frame} {meth : Method} {c : Code} {G : zg_T} {Q : State → Prop} (C : zx_C p s m args meth c G RX5 cX5_look 5) (f1 : Int32) (f2 : Int32) (f3 : Int32) (oS : zs_T) (kont : ∀ (H : Heap) (locs : List Loc) (ls : Array Slot), zg_W G oS s H locs → lv_has ls 5 [] → W p l e zr_m_X5_look s m args below meth c H locs 0 0 Q (F0 m 45 ls [])) : ∀ (n : Nat) (S : zs_T) (x4 : Int32), zl_2 (zb_X5_look_3 36 37 f1 f2 f3) n S x4 = some oS → ∀ (H : Heap) (locs : List Loc) (ls : Array Slot), zg_W G S s H locs → lv_has ls 5 [(0, .ref (zg_q G 35)), (1, .int f1), (2, .int f2), (3, .int f3), (4, .int x4)] → W p l e zr_m_X5_look s m args below meth c H locs 0 0 Q (F0 m 3 ls []) := by
  intro n
  induction n with
  | zero => intro S x4 h; cases h
  | succ n ih =>
    intro S x4 h H locs ls w hl
    replace h : zb_X5_look_3 36 37 f1 f2 f3 (zl_2 (zb_X5_look_3 36 37 f1 f2 f3) n) S x4 = some oS := h
    generalize zl_2 (zb_X5_look_3 36 37 f1 f2 f3) n = rec at ih h
    unfold zb_X5_look_3 at h
    refine lv_iload C.1 C.2.1 dX5_look_3 (lv_at hl 4 rfl) ?_
    refine lv_bipush (v := 40) C.1 C.2.1 dX5_look_5 (by decide) ?_
    refine zr_ic_ge (tgt := 45) C dX5_look_7 (by decide) h (fun h => ?_) (fun h => ?_)
    · cases h
      exact kont _ _ _ w (lv_sub hl [] rfl)
    · refine lv_aload_n C.1 C.2.1 dX5_look_10 rfl (lv_at hl 0 rfl) ?_
      refine zr_get C w 35 zm_w_X5 (zw_g35 G _) rfl 1 (by decide) zm_f_X5_15 rfl dX5_look_11 ?_
      refine lv_iload C.1 C.2.1 dX5_look_14 (lv_at hl 4 rfl) ?_
      refine zr_gets C w 8 (by decide) zm_f_X5_18 dX5_look_16 ?_
      refine lv_iload_n C.1 C.2.1 dX5_look_19 rfl (lv_at hl 3 rfl) ?_
      refine zr_tab C w 8 (by decide) (n := 4) rfl (g := zt_v8) rfl dX5_look_20 h (fun h => ?_)
      refine lv_aload_n C.1 C.2.1 dX5_look_21 rfl (lv_at hl 0 rfl) ?_
      refine zr_get C w 35 zm_w_X5 (zw_g35 G _) rfl 0 (by decide) zm_f_X5_9 rfl dX5_look_22 ?_
      refine lv_iload_n C.1 C.2.1 dX5_look_25 rfl (lv_at hl 1 rfl) ?_
      refine zr_callSi C w (As := [.int f1]) (zm_X5_from l G _ _ _ rfl) zm_c_X5_from zm_l_X5_21 zm_s_X5_from zm_0_X5 zm_d_X5_from ⟨rfl, rfl⟩ ⟨Nat.le_of_ble_eq_true rfl, Nat.le_of_ble_eq_true rfl⟩ hl.1 rfl rfl (Nat.le_of_ble_eq_true rfl) dX5_look_26 ⟨Nat.le_of_ble_eq_true rfl, Nat.le_of_ble_eq_true rfl⟩ (fun H locs w => ?_)
      refine zr_lti h (fun v1 h => ?_)
      refine lv_iload C.1 C.2.1 dX5_look_29 (lv_at hl 4 rfl) ?_
      refine lv_iadd C.1 C.2.1 dX5_look_31 ?_
      refine lv_iload_n C.1 C.2.1 dX5_look_32 rfl (lv_at hl 2 rfl) ?_
      refine lv_isub C.1 C.2.1 dX5_look_33 ?_
      refine zr_iald C w 36 (zw_g36 G _) dX5_look_34 h (fun h => ?_)
      refine zr_callSi C w (As := [.int (zt_v8 (Int32.toNatClampNeg f3)), .int (S.1 36 (Int32.toNatClampNeg ((v1 + x4) - f2)))]) (zm_X4_rounded l G _ _ _ _ rfl) zm_c_X4_rounded zm_l_X5_25 zm_s_X4_rounded zm_0_X4 zm_d_X4_rounded ⟨rfl, rfl⟩ ⟨Nat.le_of_ble_eq_true rfl, Nat.le_of_ble_eq_true rfl⟩ hl.1 rfl rfl (Nat.le_of_ble_eq_true rfl) dX5_look_35 ⟨Nat.le_of_ble_eq_true rfl, Nat.le_of_ble_eq_true rfl⟩ (fun H locs w => ?_)
      refine zr_lti h (fun v2 h => ?_)
      refine zr_iast C w 37 (zw_g37 G _) (zw_s37 G _) dX5_look_38 h (fun S3 H locs w h => ?_)
      obtain ⟨v4, e_, h⟩ := zc_lt_x h
      refine lv_iinc (v := v4) (lv' := [(4, .int v4), (0, .ref (zg_q G 35)), (1, .int f1), (2, .int f2), (3, .int f3)]) C.1 C.2.1 dX5_look_39 hl (k := 4) rfl (by subst e_; rfl) (by decide) rfl (fun ls hl => ?_)
      clear e_
      refine lv_goto (tgt := 3) C.1 C.2.1 dX5_look_42 (by decide) ?_
      exact ih _ _ h _ _ _ w (lv_sub hl [1, 2, 3, 4, 0] rfl)
set_option maxHeartbeats 4000000 in
set_option maxRecDepth 100000 in
theorem zm_X5_look_35 (l : Launch) (G : zg_T) (S : zs_T) (a1 : Int32) (a2 : Int32) (a3 : Int32) (S1 : zs_T) (h : zf_X5_look 36 37 S a1 a2 a3 = some S1) : Met l yX5_look (Cond.code yX5_look cX5_look 5 none :: zt_G) zr_m_X5_look (va_Pc [.ref (zg_q G 35), .int a1, .int a2, .int a3] (zg_P G S)) (zg_Q G none S1) 0 0 (zg_A G) := by
  refine zx_met (by decide +kernel) (Nat.le_of_ble_eq_true rfl) (lv := [(0, .ref (zg_q G 35)), (1, .int a1), (2, .int a2), (3, .int a3)]) rfl ?_
  intro p e s m below meth c C hr w ls hl
  replace C : zx_C p s m _ meth c G RX5 cX5_look 5 := C
  unfold zf_X5_look at h
  refine lv_iconst (v := 0) C.1 C.2.1 dX5_look_0 (by decide) ?_
  refine lv_istore (lv' := [(4, .int (0 : Int32)), (0, .ref (zg_q G 35)), (1, .int a1), (2, .int a2), (3, .int a3)]) C.1 C.2.1 dX5_look_1 hl (by decide) rfl (fun ls hl => ?_)
  obtain ⟨S5, hc, h⟩ := zc_b1_x h
  refine zk_X5_look_3_35 C a1 a2 a3 S5 (fun H locs ls w hl => ?_) _ _ _ hc _ _ _ w (lv_sub hl [1, 2, 3, 4, 0] rfl)
  clear hc
  exact zr_retv C w hr dX5_look_45 (Option.some.inj h)
set_option maxHeartbeats 4000000 in
set_option maxRecDepth 100000 in
theorem zk_X5_add_2_35_39 {p : Program} {l : Launch} {e : Env} {s : State} {m : MethodId} {args : Array Value} {below : List Frame} {meth : Method} {c : Code} {G : zg_T} {Q : State → Prop} (C : zx_C p s m args meth c G RX5 cX5_add 4) (f1 : Int32) (oS : zs_T) (kont : ∀ (H : Heap) (locs : List Loc) (ls : Array Slot), zg_W G oS s H locs → lv_has ls 4 [] → W p l e zr_m_X5_add s m args below meth c H locs 0 0 Q (F0 m 38 ls [])) : ∀ (n : Nat) (S : zs_T) (x3 : Int32), zl_2 (zb_X5_add_2 39 37 36 f1) n S x3 = some oS → ∀ (H : Heap) (locs : List Loc) (ls : Array Slot), zg_W G S s H locs → lv_has ls 4 [(0, .ref (zg_q G 35)), (1, .int f1), (2, .ref (zg_q G 39)), (3, .int x3)] → W p l e zr_m_X5_add s m args below meth c H locs 0 0 Q (F0 m 2 ls []) := by
  intro n
  induction n with
  | zero => intro S x3 h; cases h
  | succ n ih =>
    intro S x3 h H locs ls w hl
    replace h : zb_X5_add_2 39 37 36 f1 (zl_2 (zb_X5_add_2 39 37 36 f1) n) S x3 = some oS := h
    generalize zl_2 (zb_X5_add_2 39 37 36 f1) n = rec at ih h
    unfold zb_X5_add_2 at h
    refine lv_iload_n C.1 C.2.1 dX5_add_2 rfl (lv_at hl 3 rfl) ?_
    refine lv_bipush (v := 40) C.1 C.2.1 dX5_add_3 (by decide) ?_
    refine zr_ic_ge (tgt := 38) C dX5_add_5 (by decide) h (fun h => ?_) (fun h => ?_)
    · cases h
      exact kont _ _ _ w (lv_sub hl [] rfl)
    · refine lv_aload_n C.1 C.2.1 dX5_add_8 rfl (lv_at hl 0 rfl) ?_
      refine zr_get C w 35 zm_w_X5 (zw_g35 G _) rfl 0 (by decide) zm_f_X5_9 rfl dX5_add_9 ?_
      refine lv_iload_n C.1 C.2.1 dX5_add_12 rfl (lv_at hl 1 rfl) ?_
      refine zr_callSi C w (As := [.int f1]) (zm_X5_from l G _ _ _ rfl) zm_c_X5_from zm_l_X5_21 zm_s_X5_from zm_0_X5 zm_d_X5_from ⟨rfl, rfl⟩ ⟨Nat.le_of_ble_eq_true rfl, Nat.le_of_ble_eq_true rfl⟩ hl.1 rfl rfl (Nat.le_of_ble_eq_true rfl) dX5_add_13 ⟨Nat.le_of_ble_eq_true rfl, Nat.le_of_ble_eq_true rfl⟩ (fun H locs w => ?_)
      refine zr_lti h (fun v1 h => ?_)
      refine lv_iload_n C.1 C.2.1 dX5_add_16 rfl (lv_at hl 3 rfl) ?_
      refine lv_iadd C.1 C.2.1 dX5_add_17 ?_
      refine lv_aload_n C.1 C.2.1 dX5_add_18 rfl (lv_at hl 2 rfl) ?_
      refine lv_iload_n C.1 C.2.1 dX5_add_19 rfl (lv_at hl 3 rfl) ?_
      refine zr_iald C w 39 (zw_g39 G _) dX5_add_20 h (fun h => ?_)
      refine lv_aload_n C.1 C.2.1 dX5_add_21 rfl (lv_at hl 0 rfl) ?_
      refine zr_get C w 35 zm_w_X5 (zw_g35 G _) rfl 1 (by decide) zm_f_X5_15 rfl dX5_add_22 ?_
      refine lv_iload_n C.1 C.2.1 dX5_add_25 rfl (lv_at hl 3 rfl) ?_
      refine zr_iald C w 37 (zw_g37 G _) dX5_add_26 h (fun h => ?_)
      refine lv_iadd C.1 C.2.1 dX5_add_27 ?_
      refine zr_callSi C w (As := [.int ((S.1 39 (Int32.toNatClampNeg x3)) + (S.1 37 (Int32.toNatClampNeg x3)))]) (zm_X4_cut l G _ _ _ rfl) zm_c_X4_cut zm_l_X5_31 zm_s_X4_cut zm_0_X4 zm_d_X4_cut ⟨rfl, rfl⟩ ⟨Nat.le_of_ble_eq_true rfl, Nat.le_of_ble_eq_true rfl⟩ hl.1 rfl rfl (Nat.le_of_ble_eq_true rfl) dX5_add_28 ⟨Nat.le_of_ble_eq_true rfl, Nat.le_of_ble_eq_true rfl⟩ (fun H locs w => ?_)
      refine zr_lti h (fun v2 h => ?_)
      refine zr_iast C w 36 (zw_g36 G _) (zw_s36 G _) dX5_add_31 h (fun S3 H locs w h => ?_)
      obtain ⟨v4, e_, h⟩ := zc_lt_x h
      refine lv_iinc (v := v4) (lv' := [(3, .int v4), (0, .ref (zg_q G 35)), (1, .int f1), (2, .ref (zg_q G 39))]) C.1 C.2.1 dX5_add_32 hl (k := 3) rfl (by subst e_; rfl) (by decide) rfl (fun ls hl => ?_)
      clear e_
      refine lv_goto (tgt := 2) C.1 C.2.1 dX5_add_35 (by decide) ?_
      exact ih _ _ h _ _ _ w (lv_sub hl [1, 2, 3, 0] rfl)
set_option maxHeartbeats 4000000 in
set_option maxRecDepth 100000 in
theorem zm_X5_add_35_39 (l : Launch) (G : zg_T) (S : zs_T) (a1 : Int32) (S1 : zs_T) (h : zf_X5_add 39 37 36 S a1 = some S1) : Met l yX5_add (Cond.code yX5_add cX5_add 4 none :: zt_G) zr_m_X5_add (va_Pc [.ref (zg_q G 35), .int a1, .ref (zg_q G 39)] (zg_P G S)) (zg_Q G none S1) 0 0 (zg_A G) := by
  refine zx_met (by decide +kernel) (Nat.le_of_ble_eq_true rfl) (lv := [(0, .ref (zg_q G 35)), (1, .int a1), (2, .ref (zg_q G 39))]) rfl ?_
  intro p e s m below meth c C hr w ls hl
  replace C : zx_C p s m _ meth c G RX5 cX5_add 4 := C
  unfold zf_X5_add at h
  refine lv_iconst (v := 0) C.1 C.2.1 dX5_add_0 (by decide) ?_
  refine lv_istore_n (lv' := [(3, .int (0 : Int32)), (0, .ref (zg_q G 35)), (1, .int a1), (2, .ref (zg_q G 39))]) C.1 C.2.1 dX5_add_1 rfl hl (by decide) rfl (fun ls hl => ?_)
  obtain ⟨S5, hc, h⟩ := zc_b1_x h
  refine zk_X5_add_2_35_39 C a1 S5 (fun H locs ls w hl => ?_) _ _ _ hc _ _ _ w (lv_sub hl [1, 2, 3, 0] rfl)
  clear hc
  exact zr_retv C w hr dX5_add_38 (Option.some.inj h)
set_option maxHeartbeats 4000000 in
set_option maxRecDepth 100000 in
theorem zq_X0_rebuildPart_33 {p : Program} {l : Launch} {e : Env} {s : State} {m : MethodId} {args : Array Value} {below : List Frame} {meth : Method} {c : Code} {G : zg_T} (hr : meth.sig.returnType = none) (C : zx_C p s m args meth c G RX0 cX0_rebuildPart 5) (S1 : zs_T) (S : zs_T) (y1 : Int32) (y3 : Int32) (h : zj_X0_rebuildPart_33 S y1 y3 = some S1) (H : Heap) (locs : List Loc) (ls : Array Slot) (w : zg_W G S s H locs) (hl : lv_has ls 5 [(0, .ref (zg_q G 29)), (1, .int y1), (2, .ref (zg_q G 3)), (3, .int y3)]) : W p l e zr_m_X0_rebuildPart s m args below meth c H locs 0 0 (MQ below (zg_Q G none S1) args s 0 0 (zg_A G)) (F0 m 33 ls []) := by
  unfold zj_X0_rebuildPart_33 at h
  refine lv_aload_n C.1 C.2.1 dX0_rebuildPart_33 rfl (lv_at hl 0 rfl) ?_
  refine zr_get C w 29 zm_w_X0 (zw_g29 G _) rfl 2 (by decide) zm_f_X0_28 rfl dX0_rebuildPart_34 ?_
  refine lv_aload_n C.1 C.2.1 dX0_rebuildPart_37 rfl (lv_at hl 2 rfl) ?_
  refine lv_iload_n C.1 C.2.1 dX0_rebuildPart_38 rfl (lv_at hl 3 rfl) ?_
  obtain ⟨S3, hc, h⟩ := zc_b1_x h
  refine zr_callVv C w 38 (zw_g38 G _) rfl (As := [.ref (zg_q G 3), .int y3]) (zm_X7_makeAgain_38_3 l G _ _ _ hc) zm_c_X7_makeAgain zm_l_X0_70 zm_i_X7_makeAgain zm_e_X7_makeAgain zm_0_X7 zm_d_X7_makeAgain ⟨rfl, rfl⟩ ⟨Nat.le_of_ble_eq_true rfl, Nat.le_of_ble_eq_true rfl⟩ hl.1 rfl rfl (Nat.le_of_ble_eq_true rfl) dX0_rebuildPart_39 ⟨Nat.le_of_ble_eq_true rfl, Nat.le_of_ble_eq_true rfl⟩ (fun H locs w => ?_)
  clear hc
  refine lv_aload_n C.1 C.2.1 dX0_rebuildPart_42 rfl (lv_at hl 0 rfl) ?_
  refine zr_get C w 29 zm_w_X0 (zw_g29 G _) rfl 1 (by decide) zm_f_X0_21 rfl dX0_rebuildPart_43 ?_
  refine lv_iload_n C.1 C.2.1 dX0_rebuildPart_46 rfl (lv_at hl 1 rfl) ?_
  refine lv_aload_n C.1 C.2.1 dX0_rebuildPart_47 rfl (lv_at hl 0 rfl) ?_
  refine zr_get C w 29 zm_w_X0 (zw_g29 G _) rfl 4 (by decide) zm_f_X0_36 rfl dX0_rebuildPart_48 ?_
  refine lv_aload_n C.1 C.2.1 dX0_rebuildPart_51 rfl (lv_at hl 2 rfl) ?_
  refine lv_iload_n C.1 C.2.1 dX0_rebuildPart_52 rfl (lv_at hl 3 rfl) ?_
  refine lv_iconst (v := 1) C.1 C.2.1 dX0_rebuildPart_53 (by decide) ?_
  refine lv_iadd C.1 C.2.1 dX0_rebuildPart_54 ?_
  refine zr_iald C w 3 (zw_g3 G _) dX0_rebuildPart_55 h (fun h => ?_)
  obtain ⟨S4, hc, h⟩ := zc_b1_x h
  refine zr_callVv C w 35 (zw_g35 G _) rfl (As := [.int y1, .int (S3.1 29 4), .int (S3.1 3 (Int32.toNatClampNeg (y3 + (1 : Int32))))]) (zm_X5_look_35 l G _ _ _ _ _ hc) zm_c_X5_look zm_l_X0_73 zm_i_X5_look zm_e_X5_look zm_0_X5 zm_d_X5_look ⟨rfl, rfl⟩ ⟨Nat.le_of_ble_eq_true rfl, Nat.le_of_ble_eq_true rfl⟩ hl.1 rfl rfl (Nat.le_of_ble_eq_true rfl) dX0_rebuildPart_56 ⟨Nat.le_of_ble_eq_true rfl, Nat.le_of_ble_eq_true rfl⟩ (fun H locs w => ?_)
  clear hc
  refine lv_aload_n C.1 C.2.1 dX0_rebuildPart_59 rfl (lv_at hl 0 rfl) ?_
  refine zr_get C w 29 zm_w_X0 (zw_g29 G _) rfl 1 (by decide) zm_f_X0_21 rfl dX0_rebuildPart_60 ?_
  refine lv_iload_n C.1 C.2.1 dX0_rebuildPart_63 rfl (lv_at hl 1 rfl) ?_
  refine lv_aload_n C.1 C.2.1 dX0_rebuildPart_64 rfl (lv_at hl 0 rfl) ?_
  refine zr_get C w 29 zm_w_X0 (zw_g29 G _) rfl 2 (by decide) zm_f_X0_28 rfl dX0_rebuildPart_65 ?_
  refine zr_getN C w 38 zm_w_X7 (zw_g38 G _) rfl 0 (by decide) zm_n_X0_77 rfl dX0_rebuildPart_68 ?_
  obtain ⟨S5, hc, h⟩ := zc_b1_x h
  refine zr_callVv C w 35 (zw_g35 G _) rfl (As := [.int y1, .ref (zg_q G 39)]) (zm_X5_add_35_39 l G _ _ _ hc) zm_c_X5_add zm_l_X0_80 zm_i_X5_add zm_e_X5_add zm_0_X5 zm_d_X5_add ⟨rfl, rfl⟩ ⟨Nat.le_of_ble_eq_true rfl, Nat.le_of_ble_eq_true rfl⟩ hl.1 rfl rfl (Nat.le_of_ble_eq_true rfl) dX0_rebuildPart_71 ⟨Nat.le_of_ble_eq_true rfl, Nat.le_of_ble_eq_true rfl⟩ (fun H locs w => ?_)
  clear hc
  exact zr_retv C w hr dX0_rebuildPart_74 (Option.some.inj h)
set_option maxHeartbeats 4000000 in
set_option maxRecDepth 100000 in
theorem zm_X0_rebuildPart (l : Launch) (G : zg_T) (S : zs_T) (a1 : Int32) (S1 : zs_T) (h : zf_X0_rebuildPart S a1 = some S1) : Met l yX0_rebuildPart (Cond.code yX0_rebuildPart cX0_rebuildPart 5 none :: zt_G) zr_m_X0_rebuildPart (va_Pc [.ref (zg_q G 29), .int a1, .ref (zg_q G 3)] (zg_P G S)) (zg_Q G none S1) 0 0 (zg_A G) := by
  refine zx_met (by decide +kernel) (Nat.le_of_ble_eq_true rfl) (lv := [(0, .ref (zg_q G 29)), (1, .int a1), (2, .ref (zg_q G 3))]) rfl ?_
  intro p e s m below meth c C hr w ls hl
  replace C : zx_C p s m _ meth c G RX0 cX0_rebuildPart 5 := C
  unfold zf_X0_rebuildPart at h
  refine lv_bipush (v := 8) C.1 C.2.1 dX0_rebuildPart_0 (by decide) ?_
  refine lv_bipush (v := 17) C.1 C.2.1 dX0_rebuildPart_2 (by decide) ?_
  refine lv_iload_n C.1 C.2.1 dX0_rebuildPart_4 rfl (lv_at hl 1 rfl) ?_
  refine lv_imul C.1 C.2.1 dX0_rebuildPart_5 ?_
  refine lv_iadd C.1 C.2.1 dX0_rebuildPart_6 ?_
  refine zr_lti h (fun v1 h => ?_)
  refine lv_istore_n (lv' := [(3, .int v1), (0, .ref (zg_q G 29)), (1, .int a1), (2, .ref (zg_q G 3))]) C.1 C.2.1 dX0_rebuildPart_7 rfl hl (by decide) rfl (fun ls hl => ?_)
  refine lv_aload_n C.1 C.2.1 dX0_rebuildPart_8 rfl (lv_at hl 3 rfl) ?_
  refine lv_iload_n C.1 C.2.1 dX0_rebuildPart_9 rfl (lv_at hl 0 rfl) ?_
  refine zr_iald C w 3 (zw_g3 G _) dX0_rebuildPart_10 h (fun h => ?_)
  refine zr_lti h (fun v2 h => ?_)
  refine lv_istore (lv' := [(4, .int v2), (3, .int v1), (0, .ref (zg_q G 29)), (1, .int a1), (2, .ref (zg_q G 3))]) C.1 C.2.1 dX0_rebuildPart_11 hl (by decide) rfl (fun ls hl => ?_)
  refine lv_iload C.1 C.2.1 dX0_rebuildPart_13 (lv_at hl 0 rfl) ?_
  refine lv_bipush (v := 40) C.1 C.2.1 dX0_rebuildPart_15 (by decide) ?_
  refine zr_ic_lt (tgt := 33) C dX0_rebuildPart_17 (by decide) h (fun h => ?_) (fun h => ?_)
  · exact zq_X0_rebuildPart_33 hr C _ _ _ _ h _ _ _ w (lv_sub hl [2, 3, 4, 1] rfl)
  · refine lv_iload C.1 C.2.1 dX0_rebuildPart_20 (lv_at hl 0 rfl) ?_
    refine lv_bipush (v := 120) C.1 C.2.1 dX0_rebuildPart_22 (by decide) ?_
    refine zr_ic_gt (tgt := 33) C dX0_rebuildPart_24 (by decide) h (fun h => ?_) (fun h => ?_)
    · exact zq_X0_rebuildPart_33 hr C _ _ _ _ h _ _ _ w (lv_sub hl [2, 3, 4, 1] rfl)
    · refine lv_aload_n C.1 C.2.1 dX0_rebuildPart_27 rfl (lv_at hl 2 rfl) ?_
      refine lv_iload C.1 C.2.1 dX0_rebuildPart_28 (lv_at hl 0 rfl) ?_
      refine zr_put C w 29 zm_w_X0 tyX0 tyX0_ok nmX0 (zw_g29 G _) rfl 4 (by decide) zm_f_X0_36 rfl (ty := .int) (by decide +kernel) rfl rfl (Nat.le_of_ble_eq_true rfl) (zw_f29_4 G _ _) dX0_rebuildPart_30 h (fun S6 H locs w h => ?_)
      exact zq_X0_rebuildPart_33 hr C _ _ _ _ h _ _ _ w (lv_sub hl [2, 3, 4, 1] rfl)
set_option maxHeartbeats 4000000 in
set_option maxRecDepth 100000 in
theorem zk_X2_learn_2_31_3 {p : Program} {l : Launch} {e : Env} {s : State} {m : MethodId} {args : Array Value} {below : List Frame} {meth : Method} {c : Code} {G : zg_T} {Q : State → Prop} (C : zx_C p s m args meth c G RX2 cX2_learn 4) (oS : zs_T) (kont : ∀ (H : Heap) (locs : List Loc) (ls : Array Slot), zg_W G oS s H locs → lv_has ls 4 [] → W p l e zr_m_X2_learn s m args below meth c H locs 0 0 Q (F0 m 74 ls [])) : ∀ (n : Nat) (S : zs_T) (x2 : Int32), zl_2 (zb_X2_learn_2 32 33 3) n S x2 = some oS → ∀ (H : Heap) (locs : List Loc) (ls : Array Slot), zg_W G S s H locs → lv_has ls 4 [(0, .ref (zg_q G 31)), (1, .ref (zg_q G 3)), (2, .int x2)] → W p l e zr_m_X2_learn s m args below meth c H locs 0 0 Q (F0 m 2 ls []) := by
  intro n
  induction n with
  | zero => intro S x2 h; cases h
  | succ n ih =>
    intro S x2 h H locs ls w hl
    replace h : zb_X2_learn_2 32 33 3 (zl_2 (zb_X2_learn_2 32 33 3) n) S x2 = some oS := h
    generalize zl_2 (zb_X2_learn_2 32 33 3) n = rec at ih h
    unfold zb_X2_learn_2 at h
    refine lv_iload_n C.1 C.2.1 dX2_learn_2 rfl (lv_at hl 2 rfl) ?_
    refine lv_bipush (v := 8) C.1 C.2.1 dX2_learn_3 (by decide) ?_
    refine zr_ic_ge (tgt := 74) C dX2_learn_5 (by decide) h (fun h => ?_) (fun h => ?_)
    · cases h
      exact kont _ _ _ w (lv_sub hl [] rfl)
    · refine lv_aload_n C.1 C.2.1 dX2_learn_8 rfl (lv_at hl 0 rfl) ?_
      refine zr_get C w 31 zm_w_X2 (zw_g31 G _) rfl 1 (by decide) zm_f_X2_15 rfl dX2_learn_9 ?_
      refine lv_iload_n C.1 C.2.1 dX2_learn_12 rfl (lv_at hl 2 rfl) ?_
      refine lv_aload_n C.1 C.2.1 dX2_learn_13 rfl (lv_at hl 0 rfl) ?_
      refine zr_get C w 31 zm_w_X2 (zw_g31 G _) rfl 0 (by decide) zm_f_X2_9 rfl dX2_learn_14 ?_
      refine lv_iload_n C.1 C.2.1 dX2_learn_17 rfl (lv_at hl 2 rfl) ?_
      refine zr_iald C w 32 (zw_g32 G _) dX2_learn_18 h (fun h => ?_)
      refine zr_iast C w 33 (zw_g33 G _) (zw_s33 G _) dX2_learn_19 h (fun S1 H locs w h => ?_)
      refine lv_aload_n C.1 C.2.1 dX2_learn_20 rfl (lv_at hl 1 rfl) ?_
      refine lv_iload_n C.1 C.2.1 dX2_learn_21 rfl (lv_at hl 2 rfl) ?_
      refine zr_iald C w 3 (zw_g3 G _) dX2_learn_22 h (fun h => ?_)
      refine zr_getsN C w 2 (by decide) zm_n_X2_21 dX2_learn_23 ?_
      refine lv_iload_n C.1 C.2.1 dX2_learn_26 rfl (lv_at hl 2 rfl) ?_
      refine zr_tab C w 2 (by decide) (n := 8) rfl (g := zt_v2) rfl dX2_learn_27 h (fun h => ?_)
      refine lv_iadd C.1 C.2.1 dX2_learn_28 ?_
      refine zr_callSi C w (As := [.int ((S1.1 3 (Int32.toNatClampNeg x2)) + (zt_v2 (Int32.toNatClampNeg x2)))]) (zm_X4_cut l G _ _ _ rfl) zm_c_X4_cut zm_l_X2_24 zm_s_X4_cut zm_0_X4 zm_d_X4_cut ⟨rfl, rfl⟩ ⟨Nat.le_of_ble_eq_true rfl, Nat.le_of_ble_eq_true rfl⟩ hl.1 rfl rfl (Nat.le_of_ble_eq_true rfl) dX2_learn_29 ⟨Nat.le_of_ble_eq_true rfl, Nat.le_of_ble_eq_true rfl⟩ (fun H locs w => ?_)
      refine zr_lti h (fun v2 h => ?_)
      refine lv_sipush (v := 1024) C.1 C.2.1 dX2_learn_32 (by decide) ?_
      refine lv_imul C.1 C.2.1 dX2_learn_35 ?_
      refine zr_lti h (fun v3 h => ?_)
      refine lv_istore_n (lv' := [(3, .int v3), (0, .ref (zg_q G 31)), (1, .ref (zg_q G 3)), (2, .int x2)]) C.1 C.2.1 dX2_learn_36 rfl hl (by decide) rfl (fun ls hl => ?_)
      refine lv_aload_n C.1 C.2.1 dX2_learn_37 rfl (lv_at hl 1 rfl) ?_
      refine zr_get C w 31 zm_w_X2 (zw_g31 G _) rfl 0 (by decide) zm_f_X2_9 rfl dX2_learn_38 ?_
      refine lv_iload_n C.1 C.2.1 dX2_learn_41 rfl (lv_at hl 3 rfl) ?_
      refine lv_iconst (v := 2) C.1 C.2.1 dX2_learn_42 (by decide) ?_
      refine zr_gets C w 6 (by decide) zm_f_X2_30 dX2_learn_43 ?_
      refine lv_iload_n C.1 C.2.1 dX2_learn_46 rfl (lv_at hl 3 rfl) ?_
      refine zr_tab C w 6 (by decide) (n := 8) rfl (g := zt_v6) rfl dX2_learn_47 h (fun h => ?_)
      refine lv_iload_n C.1 C.2.1 dX2_learn_48 rfl (lv_at hl 0 rfl) ?_
      refine lv_iconst (v := 2) C.1 C.2.1 dX2_learn_49 (by decide) ?_
      refine zr_getsN C w 3 (by decide) zm_n_X2_33 dX2_learn_50 ?_
      refine lv_iload_n C.1 C.2.1 dX2_learn_53 rfl (lv_at hl 3 rfl) ?_
      refine zr_tab C w 3 (by decide) (n := 8) rfl (g := zt_v3) rfl dX2_learn_54 h (fun h => ?_)
      refine lv_imul C.1 C.2.1 dX2_learn_55 ?_
      refine lv_isub C.1 C.2.1 dX2_learn_56 ?_
      refine zr_callSi C w (As := [.int (v3 - ((2 : Int32) * (zt_v3 (Int32.toNatClampNeg x2))))]) (zm_X4_cut l G _ _ _ rfl) zm_c_X4_cut zm_l_X2_24 zm_s_X4_cut zm_0_X4 zm_d_X4_cut ⟨rfl, rfl⟩ ⟨Nat.le_of_ble_eq_true rfl, Nat.le_of_ble_eq_true rfl⟩ hl.1 rfl rfl (Nat.le_of_ble_eq_true rfl) dX2_learn_57 ⟨Nat.le_of_ble_eq_true rfl, Nat.le_of_ble_eq_true rfl⟩ (fun H locs w => ?_)
      refine zr_lti h (fun v4 h => ?_)
      refine zr_callSi C w (As := [.int (zt_v6 (Int32.toNatClampNeg x2)), .int v4]) (zm_X4_rounded l G _ _ _ _ rfl) zm_c_X4_rounded zm_l_X2_36 zm_s_X4_rounded zm_0_X4 zm_d_X4_rounded ⟨rfl, rfl⟩ ⟨Nat.le_of_ble_eq_true rfl, Nat.le_of_ble_eq_true rfl⟩ hl.1 rfl rfl (Nat.le_of_ble_eq_true rfl) dX2_learn_60 ⟨Nat.le_of_ble_eq_true rfl, Nat.le_of_ble_eq_true rfl⟩ (fun H locs w => ?_)
      refine zr_lti h (fun v5 h => ?_)
      refine lv_imul C.1 C.2.1 dX2_learn_63 ?_
      refine zr_callSi C w (As := [.int ((2 : Int32) * v5)]) (zm_X4_cut l G _ _ _ rfl) zm_c_X4_cut zm_l_X2_24 zm_s_X4_cut zm_0_X4 zm_d_X4_cut ⟨rfl, rfl⟩ ⟨Nat.le_of_ble_eq_true rfl, Nat.le_of_ble_eq_true rfl⟩ hl.1 rfl rfl (Nat.le_of_ble_eq_true rfl) dX2_learn_64 ⟨Nat.le_of_ble_eq_true rfl, Nat.le_of_ble_eq_true rfl⟩ (fun H locs w => ?_)
      refine zr_lti h (fun v6 h => ?_)
      refine zr_iast C w 32 (zw_g32 G _) (zw_s32 G _) dX2_learn_67 h (fun S7 H locs w h => ?_)
      obtain ⟨v8, e_, h⟩ := zc_lt_x h
      refine lv_iinc (v := v8) (lv' := [(2, .int v8), (3, .int v3), (0, .ref (zg_q G 31)), (1, .ref (zg_q G 3))]) C.1 C.2.1 dX2_learn_68 hl (k := 3) rfl (by subst e_; rfl) (by decide) rfl (fun ls hl => ?_)
      clear e_
      refine lv_goto (tgt := 2) C.1 C.2.1 dX2_learn_71 (by decide) ?_
      exact ih _ _ h _ _ _ w (lv_sub hl [2, 3, 0] rfl)
set_option maxHeartbeats 4000000 in
set_option maxRecDepth 100000 in
theorem zm_X2_learn_31_3 (l : Launch) (G : zg_T) (S : zs_T) (S1 : zs_T) (h : zf_X2_learn 32 33 3 S = some S1) : Met l yX2_learn (Cond.code yX2_learn cX2_learn 4 none :: zt_G) zr_m_X2_learn (va_Pc [.ref (zg_q G 31), .ref (zg_q G 3)] (zg_P G S)) (zg_Q G none S1) 0 0 (zg_A G) := by
  refine zx_met (by decide +kernel) (Nat.le_of_ble_eq_true rfl) (lv := [(0, .ref (zg_q G 31)), (1, .ref (zg_q G 3))]) rfl ?_
  intro p e s m below meth c C hr w ls hl
  replace C : zx_C p s m _ meth c G RX2 cX2_learn 4 := C
  unfold zf_X2_learn at h
  refine lv_iconst (v := 0) C.1 C.2.1 dX2_learn_0 (by decide) ?_
  refine lv_istore_n (lv' := [(2, .int (0 : Int32)), (0, .ref (zg_q G 31)), (1, .ref (zg_q G 3))]) C.1 C.2.1 dX2_learn_1 rfl hl (by decide) rfl (fun ls hl => ?_)
  obtain ⟨S9, hc, h⟩ := zc_b1_x h
  refine zk_X2_learn_2_31_3 C S9 (fun H locs ls w hl => ?_) _ _ _ hc _ _ _ w (lv_sub hl [1, 2, 0] rfl)
  clear hc
  exact zr_retv C w hr dX2_learn_74 (Option.some.inj h)
set_option maxHeartbeats 4000000 in
set_option maxRecDepth 100000 in
theorem zk_X2_shape_2_31 {p : Program} {l : Launch} {e : Env} {s : State} {m : MethodId} {args : Array Value} {below : List Frame} {meth : Method} {c : Code} {G : zg_T} {Q : State → Prop} (C : zx_C p s m args meth c G RX2 cX2_shape 3) (f1 : Int32) (oS : zs_T) (kont : ∀ (H : Heap) (locs : List Loc) (ls : Array Slot), zg_W G oS s H locs → lv_has ls 3 [] → W p l e zr_m_X2_shape s m args below meth c H locs 0 0 Q (F0 m 39 ls [])) : ∀ (n : Nat) (S : zs_T) (x2 : Int32), zl_2 (zb_X2_shape_2 33 32 34 f1) n S x2 = some oS → ∀ (H : Heap) (locs : List Loc) (ls : Array Slot), zg_W G S s H locs → lv_has ls 3 [(0, .ref (zg_q G 31)), (1, .int f1), (2, .int x2)] → W p l e zr_m_X2_shape s m args below meth c H locs 0 0 Q (F0 m 2 ls []) := by
  intro n
  induction n with
  | zero => intro S x2 h; cases h
  | succ n ih =>
    intro S x2 h H locs ls w hl
    replace h : zb_X2_shape_2 33 32 34 f1 (zl_2 (zb_X2_shape_2 33 32 34 f1) n) S x2 = some oS := h
    generalize zl_2 (zb_X2_shape_2 33 32 34 f1) n = rec at ih h
    unfold zb_X2_shape_2 at h
    refine lv_iload_n C.1 C.2.1 dX2_shape_2 rfl (lv_at hl 2 rfl) ?_
    refine lv_bipush (v := 8) C.1 C.2.1 dX2_shape_3 (by decide) ?_
    refine zr_ic_ge (tgt := 39) C dX2_shape_5 (by decide) h (fun h => ?_) (fun h => ?_)
    · cases h
      exact kont _ _ _ w (lv_sub hl [] rfl)
    · refine lv_aload_n C.1 C.2.1 dX2_shape_8 rfl (lv_at hl 0 rfl) ?_
      refine zr_get C w 31 zm_w_X2 (zw_g31 G _) rfl 2 (by decide) zm_f_X2_18 rfl dX2_shape_9 ?_
      refine lv_iload_n C.1 C.2.1 dX2_shape_12 rfl (lv_at hl 2 rfl) ?_
      refine lv_iload_n C.1 C.2.1 dX2_shape_13 rfl (lv_at hl 1 rfl) ?_
      refine lv_aload_n C.1 C.2.1 dX2_shape_14 rfl (lv_at hl 0 rfl) ?_
      refine zr_get C w 31 zm_w_X2 (zw_g31 G _) rfl 1 (by decide) zm_f_X2_15 rfl dX2_shape_15 ?_
      refine lv_iload_n C.1 C.2.1 dX2_shape_18 rfl (lv_at hl 2 rfl) ?_
      refine zr_iald C w 33 (zw_g33 G _) dX2_shape_19 h (fun h => ?_)
      refine lv_aload_n C.1 C.2.1 dX2_shape_20 rfl (lv_at hl 0 rfl) ?_
      refine zr_get C w 31 zm_w_X2 (zw_g31 G _) rfl 0 (by decide) zm_f_X2_9 rfl dX2_shape_21 ?_
      refine lv_iload_n C.1 C.2.1 dX2_shape_24 rfl (lv_at hl 2 rfl) ?_
      refine zr_iald C w 32 (zw_g32 G _) dX2_shape_25 h (fun h => ?_)
      refine zr_callSi C w (As := [.int f1, .int (S.1 33 (Int32.toNatClampNeg x2)), .int (S.1 32 (Int32.toNatClampNeg x2))]) (zm_X2_between l G _ _ _ _ _ rfl) zm_c_X2_between zm_l_X2_40 zm_s_X2_between zm_0_X2 zm_d_X2_between ⟨rfl, rfl⟩ ⟨Nat.le_of_ble_eq_true rfl, Nat.le_of_ble_eq_true rfl⟩ hl.1 rfl rfl (Nat.le_of_ble_eq_true rfl) dX2_shape_26 ⟨Nat.le_of_ble_eq_true rfl, Nat.le_of_ble_eq_true rfl⟩ (fun H locs w => ?_)
      refine zr_lti h (fun v1 h => ?_)
      refine zr_callSi C w (As := [.int v1]) (zm_X2_straight l G _ _ _ rfl) zm_c_X2_straight zm_l_X2_44 zm_s_X2_straight zm_0_X2 zm_d_X2_straight ⟨rfl, rfl⟩ ⟨Nat.le_of_ble_eq_true rfl, Nat.le_of_ble_eq_true rfl⟩ hl.1 rfl rfl (Nat.le_of_ble_eq_true rfl) dX2_shape_29 ⟨Nat.le_of_ble_eq_true rfl, Nat.le_of_ble_eq_true rfl⟩ (fun H locs w => ?_)
      refine zr_lti h (fun v2 h => ?_)
      refine zr_iast C w 34 (zw_g34 G _) (zw_s34 G _) dX2_shape_32 h (fun S3 H locs w h => ?_)
      obtain ⟨v4, e_, h⟩ := zc_lt_x h
      refine lv_iinc (v := v4) (lv' := [(2, .int v4), (0, .ref (zg_q G 31)), (1, .int f1)]) C.1 C.2.1 dX2_shape_33 hl (k := 2) rfl (by subst e_; rfl) (by decide) rfl (fun ls hl => ?_)
      clear e_
      refine lv_goto (tgt := 2) C.1 C.2.1 dX2_shape_36 (by decide) ?_
      exact ih _ _ h _ _ _ w (lv_sub hl [1, 2, 0] rfl)
set_option maxHeartbeats 4000000 in
set_option maxRecDepth 100000 in
theorem zm_X2_shape_31 (l : Launch) (G : zg_T) (S : zs_T) (a1 : Int32) (S1 : zs_T) (h : zf_X2_shape 33 32 34 S a1 = some S1) : Met l yX2_shape (Cond.code yX2_shape cX2_shape 3 none :: zt_G) zr_m_X2_shape (va_Pc [.ref (zg_q G 31), .int a1] (zg_P G S)) (zg_Q G none S1) 0 0 (zg_A G) := by
  refine zx_met (by decide +kernel) (Nat.le_of_ble_eq_true rfl) (lv := [(0, .ref (zg_q G 31)), (1, .int a1)]) rfl ?_
  intro p e s m below meth c C hr w ls hl
  replace C : zx_C p s m _ meth c G RX2 cX2_shape 3 := C
  unfold zf_X2_shape at h
  refine lv_iconst (v := 0) C.1 C.2.1 dX2_shape_0 (by decide) ?_
  refine lv_istore_n (lv' := [(2, .int (0 : Int32)), (0, .ref (zg_q G 31)), (1, .int a1)]) C.1 C.2.1 dX2_shape_1 rfl hl (by decide) rfl (fun ls hl => ?_)
  obtain ⟨S5, hc, h⟩ := zc_b1_x h
  refine zk_X2_shape_2_31 C a1 S5 (fun H locs ls w hl => ?_) _ _ _ hc _ _ _ w (lv_sub hl [1, 2, 0] rfl)
  clear hc
  exact zr_retv C w hr dX2_shape_39 (Option.some.inj h)
set_option maxHeartbeats 4000000 in
set_option maxRecDepth 100000 in
theorem zk_X0_spoken_5 {p : Program} {l : Launch} {e : Env} {s : State} {m : MethodId} {args : Array Value} {below : List Frame} {meth : Method} {c : Code} {G : zg_T} {Q : State → Prop} (C : zx_C p s m args meth c G RX0 cX0_spoken 5) (oS : zs_T) (o2 : Int32) (kont : ∀ (H : Heap) (locs : List Loc) (ls : Array Slot), zg_W G oS s H locs → lv_has ls 5 [(0, .ref (zg_q G 29)), (2, .int o2)] → W p l e zr_m_X0_spoken s m args below meth c H locs 0 0 Q (F0 m 72 ls [])) : ∀ (n : Nat) (S : zs_T) (x2 : Int32) (x3 : Int32), zl_3 (zb_X0_spoken_5) n S x2 x3 = some (oS, o2) → ∀ (H : Heap) (locs : List Loc) (ls : Array Slot), zg_W G S s H locs → lv_has ls 5 [(0, .ref (zg_q G 29)), (2, .int x2), (3, .int x3)] → W p l e zr_m_X0_spoken s m args below meth c H locs 0 0 Q (F0 m 5 ls []) := by
  intro n
  induction n with
  | zero => intro S x2 x3 h; cases h
  | succ n ih =>
    intro S x2 x3 h H locs ls w hl
    replace h : zb_X0_spoken_5 (zl_3 (zb_X0_spoken_5) n) S x2 x3 = some (oS, o2) := h
    generalize zl_3 (zb_X0_spoken_5) n = rec at ih h
    unfold zb_X0_spoken_5 at h
    refine lv_iload_n C.1 C.2.1 dX0_spoken_5 rfl (lv_at hl 2 rfl) ?_
    refine lv_iconst (v := 1) C.1 C.2.1 dX0_spoken_6 (by decide) ?_
    refine zr_ic_lt (tgt := 72) C dX0_spoken_7 (by decide) h (fun h => ?_) (fun h => ?_)
    · cases h
      exact kont _ _ _ w (lv_sub hl [0, 1] rfl)
    · refine lv_aload_n C.1 C.2.1 dX0_spoken_10 rfl (lv_at hl 0 rfl) ?_
      refine zr_get C w 29 zm_w_X0 (zw_g29 G _) rfl 0 (by decide) zm_f_X0_12 rfl dX0_spoken_11 ?_
      refine zr_getN C w 31 zm_w_X2 (zw_g31 G _) rfl 2 (by decide) zm_n_X0_100 rfl dX0_spoken_14 ?_
      refine lv_iload_n C.1 C.2.1 dX0_spoken_17 rfl (lv_at hl 2 rfl) ?_
      refine lv_iconst (v := 1) C.1 C.2.1 dX0_spoken_18 (by decide) ?_
      refine lv_isub C.1 C.2.1 dX0_spoken_19 ?_
      refine zr_iald C w 34 (zw_g34 G _) dX0_spoken_20 h (fun h => ?_)
      refine zr_lti h (fun v1 h => ?_)
      refine lv_istore (lv' := [(4, .int v1), (0, .ref (zg_q G 29)), (2, .int x2), (3, .int x3)]) C.1 C.2.1 dX0_spoken_21 hl (by decide) rfl (fun ls hl => ?_)
      refine lv_iload_n C.1 C.2.1 dX0_spoken_23 rfl (lv_at hl 2 rfl) ?_
      refine lv_iload C.1 C.2.1 dX0_spoken_24 (lv_at hl 0 rfl) ?_
      refine lv_aload_n C.1 C.2.1 dX0_spoken_26 rfl (lv_at hl 1 rfl) ?_
      refine zr_get C w 29 zm_w_X0 (zw_g29 G _) rfl 3 (by decide) zm_f_X0_32 rfl dX0_spoken_27 ?_
      refine lv_iload_n C.1 C.2.1 dX0_spoken_30 rfl (lv_at hl 3 rfl) ?_
      refine lv_iconst (v := 1) C.1 C.2.1 dX0_spoken_31 (by decide) ?_
      refine lv_isub C.1 C.2.1 dX0_spoken_32 ?_
      refine zr_iald C w 30 (zw_g30 G _) dX0_spoken_33 h (fun h => ?_)
      refine zr_callSi C w (As := [.int v1, .int (S.1 30 (Int32.toNatClampNeg (x3 - (1 : Int32))))]) (zm_X4_rounded l G _ _ _ _ rfl) zm_c_X4_rounded zm_l_X0_103 zm_s_X4_rounded zm_0_X4 zm_d_X4_rounded ⟨rfl, rfl⟩ ⟨Nat.le_of_ble_eq_true rfl, Nat.le_of_ble_eq_true rfl⟩ hl.1 rfl rfl (Nat.le_of_ble_eq_true rfl) dX0_spoken_34 ⟨Nat.le_of_ble_eq_true rfl, Nat.le_of_ble_eq_true rfl⟩ (fun H locs w => ?_)
      refine zr_lti h (fun v2 h => ?_)
      refine lv_isub C.1 C.2.1 dX0_spoken_37 ?_
      refine zr_callSi C w (As := [.int (x2 - v2)]) (zm_X4_cut l G _ _ _ rfl) zm_c_X4_cut zm_l_X0_109 zm_s_X4_cut zm_0_X4 zm_d_X4_cut ⟨rfl, rfl⟩ ⟨Nat.le_of_ble_eq_true rfl, Nat.le_of_ble_eq_true rfl⟩ hl.1 rfl rfl (Nat.le_of_ble_eq_true rfl) dX0_spoken_38 ⟨Nat.le_of_ble_eq_true rfl, Nat.le_of_ble_eq_true rfl⟩ (fun H locs w => ?_)
      refine zr_lti h (fun v3 h => ?_)
      refine lv_istore_n (lv' := [(2, .int v3), (4, .int v1), (0, .ref (zg_q G 29)), (3, .int x3)]) C.1 C.2.1 dX0_spoken_41 rfl hl (by decide) rfl (fun ls hl => ?_)
      refine lv_aload_n C.1 C.2.1 dX0_spoken_42 rfl (lv_at hl 2 rfl) ?_
      refine zr_get C w 29 zm_w_X0 (zw_g29 G _) rfl 3 (by decide) zm_f_X0_32 rfl dX0_spoken_43 ?_
      refine lv_iload_n C.1 C.2.1 dX0_spoken_46 rfl (lv_at hl 3 rfl) ?_
      refine lv_aload_n C.1 C.2.1 dX0_spoken_47 rfl (lv_at hl 2 rfl) ?_
      refine zr_get C w 29 zm_w_X0 (zw_g29 G _) rfl 3 (by decide) zm_f_X0_32 rfl dX0_spoken_48 ?_
      refine lv_iload_n C.1 C.2.1 dX0_spoken_51 rfl (lv_at hl 3 rfl) ?_
      refine lv_iconst (v := 1) C.1 C.2.1 dX0_spoken_52 (by decide) ?_
      refine lv_isub C.1 C.2.1 dX0_spoken_53 ?_
      refine zr_iald C w 30 (zw_g30 G _) dX0_spoken_54 h (fun h => ?_)
      refine lv_iload C.1 C.2.1 dX0_spoken_55 (lv_at hl 1 rfl) ?_
      refine lv_iload_n C.1 C.2.1 dX0_spoken_57 rfl (lv_at hl 0 rfl) ?_
      refine zr_callSi C w (As := [.int v1, .int v3]) (zm_X4_rounded l G _ _ _ _ rfl) zm_c_X4_rounded zm_l_X0_103 zm_s_X4_rounded zm_0_X4 zm_d_X4_rounded ⟨rfl, rfl⟩ ⟨Nat.le_of_ble_eq_true rfl, Nat.le_of_ble_eq_true rfl⟩ hl.1 rfl rfl (Nat.le_of_ble_eq_true rfl) dX0_spoken_58 ⟨Nat.le_of_ble_eq_true rfl, Nat.le_of_ble_eq_true rfl⟩ (fun H locs w => ?_)
      refine zr_lti h (fun v4 h => ?_)
      refine lv_iadd C.1 C.2.1 dX0_spoken_61 ?_
      refine zr_callSi C w (As := [.int ((S.1 30 (Int32.toNatClampNeg (x3 - (1 : Int32)))) + v4)]) (zm_X4_cut l G _ _ _ rfl) zm_c_X4_cut zm_l_X0_109 zm_s_X4_cut zm_0_X4 zm_d_X4_cut ⟨rfl, rfl⟩ ⟨Nat.le_of_ble_eq_true rfl, Nat.le_of_ble_eq_true rfl⟩ hl.1 rfl rfl (Nat.le_of_ble_eq_true rfl) dX0_spoken_62 ⟨Nat.le_of_ble_eq_true rfl, Nat.le_of_ble_eq_true rfl⟩ (fun H locs w => ?_)
      refine zr_lti h (fun v5 h => ?_)
      refine zr_iast C w 30 (zw_g30 G _) (zw_s30 G _) dX0_spoken_65 h (fun S6 H locs w h => ?_)
      obtain ⟨v7, e_, h⟩ := zc_lt_x h
      refine lv_iinc (v := v7) (lv' := [(3, .int v7), (2, .int v3), (4, .int v1), (0, .ref (zg_q G 29))]) C.1 C.2.1 dX0_spoken_66 hl (k := 3) rfl (by subst e_; rfl) (by decide) rfl (fun ls hl => ?_)
      clear e_
      refine lv_goto (tgt := 5) C.1 C.2.1 dX0_spoken_69 (by decide) ?_
      exact ih _ _ _ h _ _ _ w (lv_sub hl [3, 1, 0] rfl)
set_option maxHeartbeats 4000000 in
set_option maxRecDepth 100000 in
theorem zm_X0_spoken (l : Launch) (G : zg_T) (S : zs_T) (a1 : Int32) (r : Int32) (S1 : zs_T) (h : zf_X0_spoken S a1 = some (r, S1)) : Met l yX0_spoken (Cond.code yX0_spoken cX0_spoken 5 (some .int) :: zt_G) zr_m_X0_spoken (va_Pc [.ref (zg_q G 29), .int a1] (zg_P G S)) (zg_Q G (some (.int r)) S1) 0 0 (zg_A G) := by
  refine zx_met (by decide +kernel) (Nat.le_of_ble_eq_true rfl) (lv := [(0, .ref (zg_q G 29)), (1, .int a1)]) rfl ?_
  intro p e s m below meth c C hr w ls hl
  replace C : zx_C p s m _ meth c G RX0 cX0_spoken 5 := C
  unfold zf_X0_spoken at h
  refine lv_iload_n C.1 C.2.1 dX0_spoken_0 rfl (lv_at hl 1 rfl) ?_
  refine lv_istore_n (lv' := [(2, .int a1), (0, .ref (zg_q G 29)), (1, .int a1)]) C.1 C.2.1 dX0_spoken_1 rfl hl (by decide) rfl (fun ls hl => ?_)
  refine lv_bipush (v := 8) C.1 C.2.1 dX0_spoken_2 (by decide) ?_
  refine lv_istore_n (lv' := [(3, .int (8 : Int32)), (2, .int a1), (0, .ref (zg_q G 29)), (1, .int a1)]) C.1 C.2.1 dX0_spoken_4 rfl hl (by decide) rfl (fun ls hl => ?_)
  obtain ⟨S8, v9, hc, h⟩ := zc_b2_x h
  refine zk_X0_spoken_5 C S8 v9 (fun H locs ls w hl => ?_) _ _ _ _ hc _ _ _ w (lv_sub hl [2, 1, 0] rfl)
  clear hc
  refine lv_aload_n C.1 C.2.1 dX0_spoken_72 rfl (lv_at hl 0 rfl) ?_
  refine zr_get C w 29 zm_w_X0 (zw_g29 G _) rfl 3 (by decide) zm_f_X0_32 rfl dX0_spoken_73 ?_
  refine lv_iconst (v := 0) C.1 C.2.1 dX0_spoken_76 (by decide) ?_
  refine lv_iload_n C.1 C.2.1 dX0_spoken_77 rfl (lv_at hl 1 rfl) ?_
  refine zr_iast C w 30 (zw_g30 G _) (zw_s30 G _) dX0_spoken_78 h (fun S10 H locs w h => ?_)
  refine lv_aload_n C.1 C.2.1 dX0_spoken_79 rfl (lv_at hl 0 rfl) ?_
  refine lv_iload_n C.1 C.2.1 dX0_spoken_80 rfl (lv_at hl 1 rfl) ?_
  refine lv_aload_n C.1 C.2.1 dX0_spoken_81 rfl (lv_at hl 0 rfl) ?_
  refine zr_get C w 29 zm_w_X0 (zw_g29 G _) rfl 5 (by decide) zm_f_X0_67 rfl dX0_spoken_82 ?_
  refine lv_sipush (v := 28180) C.1 C.2.1 dX0_spoken_85 (by decide) ?_
  refine zr_callSi C w (As := [.int (S10.1 29 5), .int (28180 : Int32)]) (zm_X4_rounded l G _ _ _ _ rfl) zm_c_X4_rounded zm_l_X0_103 zm_s_X4_rounded zm_0_X4 zm_d_X4_rounded ⟨rfl, rfl⟩ ⟨Nat.le_of_ble_eq_true rfl, Nat.le_of_ble_eq_true rfl⟩ hl.1 rfl rfl (Nat.le_of_ble_eq_true rfl) dX0_spoken_88 ⟨Nat.le_of_ble_eq_true rfl, Nat.le_of_ble_eq_true rfl⟩ (fun H locs w => ?_)
  refine zr_lti h (fun v11 h => ?_)
  refine lv_iadd C.1 C.2.1 dX0_spoken_91 ?_
  refine zr_callSi C w (As := [.int (v9 + v11)]) (zm_X4_cut l G _ _ _ rfl) zm_c_X4_cut zm_l_X0_109 zm_s_X4_cut zm_0_X4 zm_d_X4_cut ⟨rfl, rfl⟩ ⟨Nat.le_of_ble_eq_true rfl, Nat.le_of_ble_eq_true rfl⟩ hl.1 rfl rfl (Nat.le_of_ble_eq_true rfl) dX0_spoken_92 ⟨Nat.le_of_ble_eq_true rfl, Nat.le_of_ble_eq_true rfl⟩ (fun H locs w => ?_)
  refine zr_lti h (fun v12 h => ?_)
  refine zr_put C w 29 zm_w_X0 tyX0 tyX0_ok nmX0 (zw_g29 G _) rfl 5 (by decide) zm_f_X0_67 rfl (ty := .int) (by decide +kernel) rfl rfl (Nat.le_of_ble_eq_true rfl) (zw_f29_5 G _ _) dX0_spoken_95 h (fun S13 H locs w h => ?_)
  refine lv_iconst (v := 2) C.1 C.2.1 dX0_spoken_98 (by decide) ?_
  refine lv_aload_n C.1 C.2.1 dX0_spoken_99 rfl (lv_at hl 0 rfl) ?_
  refine zr_get C w 29 zm_w_X0 (zw_g29 G _) rfl 5 (by decide) zm_f_X0_67 rfl dX0_spoken_100 ?_
  refine lv_imul C.1 C.2.1 dX0_spoken_103 ?_
  refine zr_callSi C w (As := [.int ((2 : Int32) * (S13.1 29 5))]) (zm_X4_cut l G _ _ _ rfl) zm_c_X4_cut zm_l_X0_109 zm_s_X4_cut zm_0_X4 zm_d_X4_cut ⟨rfl, rfl⟩ ⟨Nat.le_of_ble_eq_true rfl, Nat.le_of_ble_eq_true rfl⟩ hl.1 rfl rfl (Nat.le_of_ble_eq_true rfl) dX0_spoken_104 ⟨Nat.le_of_ble_eq_true rfl, Nat.le_of_ble_eq_true rfl⟩ (fun H locs w => ?_)
  refine zr_lti h (fun v14 h => ?_)
  refine lv_bipush (v := -8) C.1 C.2.1 dX0_spoken_107 (by decide) ?_
  refine lv_iand C.1 C.2.1 dX0_spoken_109 ?_
  exact zr_reti C w hr dX0_spoken_110 (congrArg Prod.fst (Option.some.inj h)) (congrArg Prod.snd (Option.some.inj h))
set_option maxHeartbeats 4000000 in
set_option maxRecDepth 100000 in
theorem zk_X0_giveBack_20 {p : Program} {l : Launch} {e : Env} {s : State} {m : MethodId} {args : Array Value} {below : List Frame} {meth : Method} {c : Code} {G : zg_T} {Q : State → Prop} (C : zx_C p s m args meth c G RX0 cX0_giveBack 4) (f3 : Int32) (oS : zs_T) (o2 : Int32) (kont : ∀ (H : Heap) (locs : List Loc) (ls : Array Slot), zg_W G oS s H locs → lv_has ls 4 [(0, .ref (zg_q G 29)), (1, .ref (zg_q G 4)), (2, .int o2), (3, .int f3)] → W p l e zr_m_X0_giveBack s m args below meth c H locs 0 0 Q (F0 m 56 ls [])) : ∀ (n : Nat) (S : zs_T) (x2 : Int32), zl_2 (zb_X0_giveBack_20 f3) n S x2 = some (oS, o2) → ∀ (H : Heap) (locs : List Loc) (ls : Array Slot), zg_W G S s H locs → lv_has ls 4 [(0, .ref (zg_q G 29)), (1, .ref (zg_q G 4)), (2, .int x2), (3, .int f3)] → W p l e zr_m_X0_giveBack s m args below meth c H locs 0 0 Q (F0 m 20 ls []) := by
  intro n
  induction n with
  | zero => intro S x2 h; cases h
  | succ n ih =>
    intro S x2 h H locs ls w hl
    replace h : zb_X0_giveBack_20 f3 (zl_2 (zb_X0_giveBack_20 f3) n) S x2 = some (oS, o2) := h
    generalize zl_2 (zb_X0_giveBack_20 f3) n = rec at ih h
    unfold zb_X0_giveBack_20 at h
    refine lv_iload_n C.1 C.2.1 dX0_giveBack_20 rfl (lv_at hl 2 rfl) ?_
    refine zr_getsN C w 7 (by decide) zm_n_X0_83 dX0_giveBack_21 ?_
    refine lv_iload_n C.1 C.2.1 dX0_giveBack_24 rfl (lv_at hl 3 rfl) ?_
    refine zr_tab C w 7 (by decide) (n := 4) rfl (g := zt_v7) rfl dX0_giveBack_25 h (fun h => ?_)
    refine zr_ic_ge (tgt := 56) C dX0_giveBack_26 (by decide) h (fun h => ?_) (fun h => ?_)
    · cases h
      exact kont _ _ _ w (lv_sub hl [0, 1, 2, 3] rfl)
    · refine lv_aload_n C.1 C.2.1 dX0_giveBack_29 rfl (lv_at hl 1 rfl) ?_
      refine lv_iload_n C.1 C.2.1 dX0_giveBack_30 rfl (lv_at hl 2 rfl) ?_
      refine lv_aload_n C.1 C.2.1 dX0_giveBack_31 rfl (lv_at hl 0 rfl) ?_
      refine lv_aload_n C.1 C.2.1 dX0_giveBack_32 rfl (lv_at hl 0 rfl) ?_
      refine zr_get C w 29 zm_w_X0 (zw_g29 G _) rfl 1 (by decide) zm_f_X0_21 rfl dX0_giveBack_33 ?_
      refine zr_getN C w 35 zm_w_X5 (zw_g35 G _) rfl 0 (by decide) zm_n_X0_90 rfl dX0_giveBack_36 ?_
      refine lv_iconst (v := 0) C.1 C.2.1 dX0_giveBack_39 (by decide) ?_
      refine zr_callSi C w (As := [.int (0 : Int32)]) (zm_X5_from l G _ _ _ rfl) zm_c_X5_from zm_l_X0_93 zm_s_X5_from zm_0_X5 zm_d_X5_from ⟨rfl, rfl⟩ ⟨Nat.le_of_ble_eq_true rfl, Nat.le_of_ble_eq_true rfl⟩ hl.1 rfl rfl (Nat.le_of_ble_eq_true rfl) dX0_giveBack_40 ⟨Nat.le_of_ble_eq_true rfl, Nat.le_of_ble_eq_true rfl⟩ (fun H locs w => ?_)
      refine zr_lti h (fun v2 h => ?_)
      refine lv_iload_n C.1 C.2.1 dX0_giveBack_43 rfl (lv_at hl 2 rfl) ?_
      refine lv_iadd C.1 C.2.1 dX0_giveBack_44 ?_
      refine zr_iald C w 36 (zw_g36 G _) dX0_giveBack_45 h (fun h => ?_)
      obtain ⟨v3, S4, hc, h⟩ := zc_b2_x h
      refine zr_callVi C w 29 (zw_g29 G _) rfl (As := [.int (S.1 36 (Int32.toNatClampNeg (v2 + x2)))]) (zm_X0_spoken l G _ _ _ _ hc) zm_c_X0_spoken zm_l_X0_97 zm_i_X0_spoken zm_e_X0_spoken zm_0_X0 zm_d_X0_spoken ⟨rfl, rfl⟩ ⟨Nat.le_of_ble_eq_true rfl, Nat.le_of_ble_eq_true rfl⟩ hl.1 rfl rfl (Nat.le_of_ble_eq_true rfl) dX0_giveBack_46 ⟨Nat.le_of_ble_eq_true rfl, Nat.le_of_ble_eq_true rfl⟩ (fun H locs w => ?_)
      clear hc
      refine zr_iast C w 4 (zw_g4 G _) (zw_s4 G _) dX0_giveBack_49 h (fun S5 H locs w h => ?_)
      obtain ⟨v6, e_, h⟩ := zc_lt_x h
      refine lv_iinc (v := v6) (lv' := [(2, .int v6), (0, .ref (zg_q G 29)), (1, .ref (zg_q G 4)), (3, .int f3)]) C.1 C.2.1 dX0_giveBack_50 hl (k := 2) rfl (by subst e_; rfl) (by decide) rfl (fun ls hl => ?_)
      clear e_
      refine lv_goto (tgt := 20) C.1 C.2.1 dX0_giveBack_53 (by decide) ?_
      exact ih _ _ h _ _ _ w (lv_sub hl [1, 2, 0, 3] rfl)
set_option maxHeartbeats 4000000 in
set_option maxRecDepth 100000 in
theorem zk_X0_giveBack_4 {p : Program} {l : Launch} {e : Env} {s : State} {m : MethodId} {args : Array Value} {below : List Frame} {meth : Method} {c : Code} {G : zg_T} {Q : State → Prop} (C : zx_C p s m args meth c G RX0 cX0_giveBack 4) (oS : zs_T) (kont : ∀ (H : Heap) (locs : List Loc) (ls : Array Slot), zg_W G oS s H locs → lv_has ls 4 [] → W p l e zr_m_X0_giveBack s m args below meth c H locs 0 0 Q (F0 m 62 ls [])) : ∀ (n : Nat) (S : zs_T) (x2 : Int32) (x3 : Int32), zl_3 (zb_X0_giveBack_4) n S x2 x3 = some oS → ∀ (H : Heap) (locs : List Loc) (ls : Array Slot), zg_W G S s H locs → lv_has ls 4 [(0, .ref (zg_q G 29)), (1, .ref (zg_q G 4)), (2, .int x2), (3, .int x3)] → W p l e zr_m_X0_giveBack s m args below meth c H locs 0 0 Q (F0 m 4 ls []) := by
  intro n
  induction n with
  | zero => intro S x2 x3 h; cases h
  | succ n ih =>
    intro S x2 x3 h H locs ls w hl
    replace h : zb_X0_giveBack_4 (zl_3 (zb_X0_giveBack_4) n) S x2 x3 = some oS := h
    generalize zl_3 (zb_X0_giveBack_4) n = rec at ih h
    unfold zb_X0_giveBack_4 at h
    refine lv_iload_n C.1 C.2.1 dX0_giveBack_4 rfl (lv_at hl 3 rfl) ?_
    refine zr_getsN C w 7 (by decide) zm_n_X0_83 dX0_giveBack_5 ?_
    refine zr_tlen C w 7 (by decide) (v := 4) (by decide) dX0_giveBack_8 ?_
    refine zr_ic_ge (tgt := 62) C dX0_giveBack_9 (by decide) h (fun h => ?_) (fun h => ?_)
    · cases h
      exact kont _ _ _ w (lv_sub hl [] rfl)
    · refine lv_aload_n C.1 C.2.1 dX0_giveBack_12 rfl (lv_at hl 0 rfl) ?_
      refine zr_get C w 29 zm_w_X0 (zw_g29 G _) rfl 0 (by decide) zm_f_X0_12 rfl dX0_giveBack_13 ?_
      refine lv_iload_n C.1 C.2.1 dX0_giveBack_16 rfl (lv_at hl 3 rfl) ?_
      obtain ⟨S1, hc, h⟩ := zc_b1_x h
      refine zr_callVv C w 31 (zw_g31 G _) rfl (As := [.int x3]) (zm_X2_shape_31 l G _ _ _ hc) zm_c_X2_shape zm_l_X0_86 zm_i_X2_shape zm_e_X2_shape zm_0_X2 zm_d_X2_shape ⟨rfl, rfl⟩ ⟨Nat.le_of_ble_eq_true rfl, Nat.le_of_ble_eq_true rfl⟩ hl.1 rfl rfl (Nat.le_of_ble_eq_true rfl) dX0_giveBack_17 ⟨Nat.le_of_ble_eq_true rfl, Nat.le_of_ble_eq_true rfl⟩ (fun H locs w => ?_)
      clear hc
      obtain ⟨S7, v8, hc, h⟩ := zc_b2_x h
      refine zk_X0_giveBack_20 C x3 S7 v8 (fun H locs ls w hl => ?_) _ _ _ hc _ _ _ w (lv_sub hl [0, 1, 2, 3] rfl)
      clear hc
      obtain ⟨v9, e_, h⟩ := zc_lt_x h
      refine lv_iinc (v := v9) (lv' := [(3, .int v9), (0, .ref (zg_q G 29)), (1, .ref (zg_q G 4)), (2, .int v8)]) C.1 C.2.1 dX0_giveBack_56 hl (k := 3) rfl (by subst e_; rfl) (by decide) rfl (fun ls hl => ?_)
      clear e_
      refine lv_goto (tgt := 4) C.1 C.2.1 dX0_giveBack_59 (by decide) ?_
      exact ih _ _ _ h _ _ _ w (lv_sub hl [1, 2, 3, 0] rfl)
set_option maxHeartbeats 4000000 in
set_option maxRecDepth 100000 in
theorem zm_X0_giveBack (l : Launch) (G : zg_T) (S : zs_T) (S1 : zs_T) (h : zf_X0_giveBack S = some S1) : Met l yX0_giveBack (Cond.code yX0_giveBack cX0_giveBack 4 none :: zt_G) zr_m_X0_giveBack (va_Pc [.ref (zg_q G 29), .ref (zg_q G 4)] (zg_P G S)) (zg_Q G none S1) 0 0 (zg_A G) := by
  refine zx_met (by decide +kernel) (Nat.le_of_ble_eq_true rfl) (lv := [(0, .ref (zg_q G 29)), (1, .ref (zg_q G 4))]) rfl ?_
  intro p e s m below meth c C hr w ls hl
  replace C : zx_C p s m _ meth c G RX0 cX0_giveBack 4 := C
  unfold zf_X0_giveBack at h
  refine lv_iconst (v := 0) C.1 C.2.1 dX0_giveBack_0 (by decide) ?_
  refine lv_istore_n (lv' := [(2, .int (0 : Int32)), (0, .ref (zg_q G 29)), (1, .ref (zg_q G 4))]) C.1 C.2.1 dX0_giveBack_1 rfl hl (by decide) rfl (fun ls hl => ?_)
  refine lv_iconst (v := 0) C.1 C.2.1 dX0_giveBack_2 (by decide) ?_
  refine lv_istore_n (lv' := [(3, .int (0 : Int32)), (2, .int (0 : Int32)), (0, .ref (zg_q G 29)), (1, .ref (zg_q G 4))]) C.1 C.2.1 dX0_giveBack_3 rfl hl (by decide) rfl (fun ls hl => ?_)
  obtain ⟨S10, hc, h⟩ := zc_b1_x h
  refine zk_X0_giveBack_4 C S10 (fun H locs ls w hl => ?_) _ _ _ _ hc _ _ _ w (lv_sub hl [2, 3, 1, 0] rfl)
  clear hc
  exact zr_retv C w hr dX0_giveBack_62 (Option.some.inj h)
set_option maxHeartbeats 4000000 in
set_option maxRecDepth 100000 in
theorem zm_X5_endFrame_35 (l : Launch) (G : zg_T) (S : zs_T) (S1 : zs_T) (h : zf_X5_endFrame 36 S = some S1) : Met l yX5_endFrame (Cond.code yX5_endFrame cX5_endFrame 1 none :: zt_G) zr_m_X5_endFrame (va_Pc [.ref (zg_q G 35)] (zg_P G S)) (zg_Q G none S1) 0 0 (zg_A G) := by
  refine zx_met (by decide +kernel) (Nat.le_of_ble_eq_true rfl) (lv := [(0, .ref (zg_q G 35))]) rfl ?_
  intro p e s m below meth c C hr w ls hl
  replace C : zx_C p s m _ meth c G RX5 cX5_endFrame 1 := C
  unfold zf_X5_endFrame at h
  refine lv_aload_n C.1 C.2.1 dX5_endFrame_0 rfl (lv_at hl 0 rfl) ?_
  refine zr_get C w 35 zm_w_X5 (zw_g35 G _) rfl 0 (by decide) zm_f_X5_9 rfl dX5_endFrame_1 ?_
  refine lv_sipush (v := 160) C.1 C.2.1 dX5_endFrame_4 (by decide) ?_
  refine lv_aload_n C.1 C.2.1 dX5_endFrame_7 rfl (lv_at hl 0 rfl) ?_
  refine zr_get C w 35 zm_w_X5 (zw_g35 G _) rfl 0 (by decide) zm_f_X5_9 rfl dX5_endFrame_8 ?_
  refine lv_iconst (v := 0) C.1 C.2.1 dX5_endFrame_11 (by decide) ?_
  refine lv_bipush (v := 120) C.1 C.2.1 dX5_endFrame_12 (by decide) ?_
  refine zr_copy C w 36 (zw_g36 G _) (zw_s36 G _) zm_l_X5_34 zm_ac_n zm_ac_s zm_ac_i (by decide) (by decide) (by decide) (by decide) (by decide) hl.1 (Nat.le_of_ble_eq_true rfl) (Nat.le_of_ble_eq_true rfl) dX5_endFrame_14 h (fun S1 H locs w h => ?_)
  exact zr_retv C w hr dX5_endFrame_17 (Option.some.inj h)
set_option maxHeartbeats 4000000 in
set_option maxRecDepth 100000 in
theorem zk_X0_speak_2 {p : Program} {l : Launch} {e : Env} {s : State} {m : MethodId} {args : Array Value} {below : List Frame} {meth : Method} {c : Code} {G : zg_T} {Q : State → Prop} (C : zx_C p s m args meth c G RX0 cX0_speak 4) (oS : zs_T) (kont : ∀ (H : Heap) (locs : List Loc) (ls : Array Slot), zg_W G oS s H locs → lv_has ls 4 [(0, .ref (zg_q G 29)), (1, .ref (zg_q G 3)), (2, .ref (zg_q G 4))] → W p l e zr_m_X0_speak s m args below meth c H locs 0 0 Q (F0 m 19 ls [])) : ∀ (n : Nat) (S : zs_T) (x3 : Int32), zl_2 (zb_X0_speak_2) n S x3 = some oS → ∀ (H : Heap) (locs : List Loc) (ls : Array Slot), zg_W G S s H locs → lv_has ls 4 [(0, .ref (zg_q G 29)), (1, .ref (zg_q G 3)), (2, .ref (zg_q G 4)), (3, .int x3)] → W p l e zr_m_X0_speak s m args below meth c H locs 0 0 Q (F0 m 2 ls []) := by
  intro n
  induction n with
  | zero => intro S x3 h; cases h
  | succ n ih =>
    intro S x3 h H locs ls w hl
    replace h : zb_X0_speak_2 (zl_2 (zb_X0_speak_2) n) S x3 = some oS := h
    generalize zl_2 (zb_X0_speak_2) n = rec at ih h
    unfold zb_X0_speak_2 at h
    refine lv_iload_n C.1 C.2.1 dX0_speak_2 rfl (lv_at hl 3 rfl) ?_
    refine lv_iconst (v := 4) C.1 C.2.1 dX0_speak_3 (by decide) ?_
    refine zr_ic_ge (tgt := 19) C dX0_speak_4 (by decide) h (fun h => ?_) (fun h => ?_)
    · cases h
      exact kont _ _ _ w (lv_sub hl [0, 1, 2] rfl)
    · refine lv_aload_n C.1 C.2.1 dX0_speak_7 rfl (lv_at hl 0 rfl) ?_
      refine lv_iload_n C.1 C.2.1 dX0_speak_8 rfl (lv_at hl 3 rfl) ?_
      refine lv_aload_n C.1 C.2.1 dX0_speak_9 rfl (lv_at hl 1 rfl) ?_
      obtain ⟨S1, hc, h⟩ := zc_b1_x h
      refine zr_callVv C w 29 (zw_g29 G _) rfl (As := [.int x3, .ref (zg_q G 3)]) (zm_X0_rebuildPart l G _ _ _ hc) zm_c_X0_rebuildPart zm_l_X0_40 zm_i_X0_rebuildPart zm_e_X0_rebuildPart zm_0_X0 zm_d_X0_rebuildPart ⟨rfl, rfl⟩ ⟨Nat.le_of_ble_eq_true rfl, Nat.le_of_ble_eq_true rfl⟩ hl.1 rfl rfl (Nat.le_of_ble_eq_true rfl) dX0_speak_10 ⟨Nat.le_of_ble_eq_true rfl, Nat.le_of_ble_eq_true rfl⟩ (fun H locs w => ?_)
      clear hc
      obtain ⟨v2, e_, h⟩ := zc_lt_x h
      refine lv_iinc (v := v2) (lv' := [(3, .int v2), (0, .ref (zg_q G 29)), (1, .ref (zg_q G 3)), (2, .ref (zg_q G 4))]) C.1 C.2.1 dX0_speak_13 hl (k := 3) rfl (by subst e_; rfl) (by decide) rfl (fun ls hl => ?_)
      clear e_
      refine lv_goto (tgt := 2) C.1 C.2.1 dX0_speak_16 (by decide) ?_
      exact ih _ _ h _ _ _ w (lv_sub hl [1, 2, 3, 0] rfl)
set_option maxHeartbeats 4000000 in
set_option maxRecDepth 100000 in
theorem zm_X0_speak (l : Launch) (G : zg_T) (S : zs_T) (S1 : zs_T) (h : zf_X0_speak S = some S1) : Met l yX0_speak (Cond.code yX0_speak cX0_speak 4 none :: zt_G) zr_m_X0_speak (va_Pc [.ref (zg_q G 29), .ref (zg_q G 3), .ref (zg_q G 4)] (zg_P G S)) (zg_Q G none S1) 0 0 (zg_A G) := by
  refine zx_met (by decide +kernel) (Nat.le_of_ble_eq_true rfl) (lv := [(0, .ref (zg_q G 29)), (1, .ref (zg_q G 3)), (2, .ref (zg_q G 4))]) rfl ?_
  intro p e s m below meth c C hr w ls hl
  replace C : zx_C p s m _ meth c G RX0 cX0_speak 4 := C
  unfold zf_X0_speak at h
  refine lv_iconst (v := 0) C.1 C.2.1 dX0_speak_0 (by decide) ?_
  refine lv_istore_n (lv' := [(3, .int (0 : Int32)), (0, .ref (zg_q G 29)), (1, .ref (zg_q G 3)), (2, .ref (zg_q G 4))]) C.1 C.2.1 dX0_speak_1 rfl hl (by decide) rfl (fun ls hl => ?_)
  obtain ⟨S3, hc, h⟩ := zc_b1_x h
  refine zk_X0_speak_2 C S3 (fun H locs ls w hl => ?_) _ _ _ hc _ _ _ w (lv_sub hl [1, 2, 3, 0] rfl)
  clear hc
  refine lv_aload_n C.1 C.2.1 dX0_speak_19 rfl (lv_at hl 0 rfl) ?_
  refine zr_get C w 29 zm_w_X0 (zw_g29 G _) rfl 0 (by decide) zm_f_X0_12 rfl dX0_speak_20 ?_
  refine lv_aload_n C.1 C.2.1 dX0_speak_23 rfl (lv_at hl 1 rfl) ?_
  obtain ⟨S4, hc, h⟩ := zc_b1_x h
  refine zr_callVv C w 31 (zw_g31 G _) rfl (As := [.ref (zg_q G 3)]) (zm_X2_learn_31_3 l G _ _ hc) zm_c_X2_learn zm_l_X0_44 zm_i_X2_learn zm_e_X2_learn zm_0_X2 zm_d_X2_learn ⟨rfl, rfl⟩ ⟨Nat.le_of_ble_eq_true rfl, Nat.le_of_ble_eq_true rfl⟩ hl.1 rfl rfl (Nat.le_of_ble_eq_true rfl) dX0_speak_24 ⟨Nat.le_of_ble_eq_true rfl, Nat.le_of_ble_eq_true rfl⟩ (fun H locs w => ?_)
  clear hc
  refine lv_aload_n C.1 C.2.1 dX0_speak_27 rfl (lv_at hl 0 rfl) ?_
  refine lv_aload_n C.1 C.2.1 dX0_speak_28 rfl (lv_at hl 2 rfl) ?_
  obtain ⟨S5, hc, h⟩ := zc_b1_x h
  refine zr_callVv C w 29 (zw_g29 G _) rfl (As := [.ref (zg_q G 4)]) (zm_X0_giveBack l G _ _ hc) zm_c_X0_giveBack zm_l_X0_48 zm_i_X0_giveBack zm_e_X0_giveBack zm_0_X0 zm_d_X0_giveBack ⟨rfl, rfl⟩ ⟨Nat.le_of_ble_eq_true rfl, Nat.le_of_ble_eq_true rfl⟩ hl.1 rfl rfl (Nat.le_of_ble_eq_true rfl) dX0_speak_29 ⟨Nat.le_of_ble_eq_true rfl, Nat.le_of_ble_eq_true rfl⟩ (fun H locs w => ?_)
  clear hc
  refine lv_aload_n C.1 C.2.1 dX0_speak_32 rfl (lv_at hl 0 rfl) ?_
  refine zr_get C w 29 zm_w_X0 (zw_g29 G _) rfl 1 (by decide) zm_f_X0_21 rfl dX0_speak_33 ?_
  obtain ⟨S6, hc, h⟩ := zc_b1_x h
  refine zr_callVv C w 35 (zw_g35 G _) rfl (As := []) (zm_X5_endFrame_35 l G _ _ hc) zm_c_X5_endFrame zm_l_X0_51 zm_i_X5_endFrame zm_e_X5_endFrame zm_0_X5 zm_d_X5_endFrame ⟨rfl, rfl⟩ ⟨Nat.le_of_ble_eq_true rfl, Nat.le_of_ble_eq_true rfl⟩ hl.1 rfl rfl (Nat.le_of_ble_eq_true rfl) dX0_speak_36 ⟨Nat.le_of_ble_eq_true rfl, Nat.le_of_ble_eq_true rfl⟩ (fun H locs w => ?_)
  clear hc
  refine lv_aload_n C.1 C.2.1 dX0_speak_39 rfl (lv_at hl 0 rfl) ?_
  refine lv_dup C.1 C.2.1 dX0_speak_40 rfl ?_
  refine zr_get C w 29 zm_w_X0 (zw_g29 G _) rfl 6 (by decide) zm_f_X0_54 rfl dX0_speak_41 ?_
  refine lv_iconst (v := 1) C.1 C.2.1 dX0_speak_44 (by decide) ?_
  refine lv_iadd C.1 C.2.1 dX0_speak_45 ?_
  refine zr_put C w 29 zm_w_X0 tyX0 tyX0_ok nmX0 (zw_g29 G _) rfl 6 (by decide) zm_f_X0_54 rfl (ty := .int) (by decide +kernel) rfl rfl (Nat.le_of_ble_eq_true rfl) (zw_f29_6 G _ _) dX0_speak_46 h (fun S7 H locs w h => ?_)
  exact zr_retv C w hr dX0_speak_49 (Option.some.inj h)
set_option maxHeartbeats 4000000 in
set_option maxRecDepth 100000 in
theorem zk_J7_fill_53178_5_32 {p : Program} {l : Launch} {e : Env} {s : State} {m : MethodId} {args : Array Value} {below : List Frame} {meth : Method} {c : Code} {G : zg_T} {Q : State → Prop} (C : zx_C p s m args meth c G RJ7 cJ7_fill_53178 4) (f1 : Int32) (f3 : Int32) (oS : zs_T) (kont : ∀ (H : Heap) (locs : List Loc) (ls : Array Slot), zg_W G oS s H locs → lv_has ls 4 [] → W p l e zr_m_J7_fill_53178 s m args below meth c H locs 0 0 Q (F0 m 20 ls [])) : ∀ (n : Nat) (S : zs_T) (x2 : Int32), zl_2 (zb_J7_fill_53178_5 32 8 f1 f3) n S x2 = some oS → ∀ (H : Heap) (locs : List Loc) (ls : Array Slot), zg_W G S s H locs → lv_has ls 4 [(0, .ref (zg_q G 32)), (1, .int f1), (2, .int x2), (3, .int f3)] → W p l e zr_m_J7_fill_53178 s m args below meth c H locs 0 0 Q (F0 m 5 ls []) := by
  intro n
  induction n with
  | zero => intro S x2 h; cases h
  | succ n ih =>
    intro S x2 h H locs ls w hl
    replace h : zb_J7_fill_53178_5 32 8 f1 f3 (zl_2 (zb_J7_fill_53178_5 32 8 f1 f3) n) S x2 = some oS := h
    generalize zl_2 (zb_J7_fill_53178_5 32 8 f1 f3) n = rec at ih h
    unfold zb_J7_fill_53178_5 at h
    refine lv_iload_n C.1 C.2.1 dJ7_fill_53178_5 rfl (lv_at hl 2 rfl) ?_
    refine lv_iload_n C.1 C.2.1 dJ7_fill_53178_6 rfl (lv_at hl 3 rfl) ?_
    refine zr_ic_ge (tgt := 20) C dJ7_fill_53178_7 (by decide) h (fun h => ?_) (fun h => ?_)
    · cases h
      exact kont _ _ _ w (lv_sub hl [] rfl)
    · refine lv_aload_n C.1 C.2.1 dJ7_fill_53178_10 rfl (lv_at hl 0 rfl) ?_
      refine lv_iload_n C.1 C.2.1 dJ7_fill_53178_11 rfl (lv_at hl 2 rfl) ?_
      refine lv_iload_n C.1 C.2.1 dJ7_fill_53178_12 rfl (lv_at hl 1 rfl) ?_
      refine zr_iast C w 32 (zw_g32 G _) (zw_s32 G _) dJ7_fill_53178_13 h (fun S2 H locs w h => ?_)
      obtain ⟨v3, e_, h⟩ := zc_lt_x h
      refine lv_iinc (v := v3) (lv' := [(2, .int v3), (0, .ref (zg_q G 32)), (1, .int f1), (3, .int f3)]) C.1 C.2.1 dJ7_fill_53178_14 hl (k := 2) rfl (by subst e_; rfl) (by decide) rfl (fun ls hl => ?_)
      clear e_
      refine lv_goto (tgt := 5) C.1 C.2.1 dJ7_fill_53178_17 (by decide) ?_
      exact ih _ _ h _ _ _ w (lv_sub hl [1, 2, 0, 3] rfl)
set_option maxHeartbeats 4000000 in
set_option maxRecDepth 100000 in
theorem zm_J7_fill_53178_32 (l : Launch) (G : zg_T) (S : zs_T) (a1 : Int32) (S1 : zs_T) (h : zf_J7_fill_53178 32 8 S a1 = some S1) : Met l yJ7_fill_53178 (Cond.code yJ7_fill_53178 cJ7_fill_53178 4 none :: zt_G) zr_m_J7_fill_53178 (va_Pc [.ref (zg_q G 32), .int a1] (zg_P G S)) (zg_Q G none S1) 0 0 (zg_A G) := by
  refine zx_met (by decide +kernel) (Nat.le_of_ble_eq_true rfl) (lv := [(0, .ref (zg_q G 32)), (1, .int a1)]) rfl ?_
  intro p e s m below meth c C hr w ls hl
  replace C : zx_C p s m _ meth c G RJ7 cJ7_fill_53178 4 := C
  unfold zf_J7_fill_53178 at h
  refine lv_iconst (v := 0) C.1 C.2.1 dJ7_fill_53178_0 (by decide) ?_
  refine lv_istore_n (lv' := [(2, .int (0 : Int32)), (0, .ref (zg_q G 32)), (1, .int a1)]) C.1 C.2.1 dJ7_fill_53178_1 rfl hl (by decide) rfl (fun ls hl => ?_)
  refine lv_aload_n C.1 C.2.1 dJ7_fill_53178_2 rfl (lv_at hl 1 rfl) ?_
  refine zr_alen C w 32 (zw_g32 G _) rfl dJ7_fill_53178_3 ?_
  refine zr_lti h (fun v1 h => ?_)
  refine lv_istore_n (lv' := [(3, .int v1), (2, .int (0 : Int32)), (0, .ref (zg_q G 32)), (1, .int a1)]) C.1 C.2.1 dJ7_fill_53178_4 rfl hl (by decide) rfl (fun ls hl => ?_)
  obtain ⟨S4, hc, h⟩ := zc_b1_x h
  refine zk_J7_fill_53178_5_32 C a1 v1 S4 (fun H locs ls w hl => ?_) _ _ _ hc _ _ _ w (lv_sub hl [2, 3, 1, 0] rfl)
  clear hc
  exact zr_retv C w hr dJ7_fill_53178_20 (Option.some.inj h)
set_option maxHeartbeats 4000000 in
set_option maxRecDepth 100000 in
theorem zm_X2_forget_31 (l : Launch) (G : zg_T) (S : zs_T) (S1 : zs_T) (h : zf_X2_forget 32 S = some S1) : Met l yX2_forget (Cond.code yX2_forget cX2_forget 1 none :: zt_G) zr_m_X2_forget (va_Pc [.ref (zg_q G 31)] (zg_P G S)) (zg_Q G none S1) 0 0 (zg_A G) := by
  refine zx_met (by decide +kernel) (Nat.le_of_ble_eq_true rfl) (lv := [(0, .ref (zg_q G 31))]) rfl ?_
  intro p e s m below meth c C hr w ls hl
  replace C : zx_C p s m _ meth c G RX2 cX2_forget 1 := C
  unfold zf_X2_forget at h
  refine lv_aload_n C.1 C.2.1 dX2_forget_0 rfl (lv_at hl 0 rfl) ?_
  refine zr_get C w 31 zm_w_X2 (zw_g31 G _) rfl 0 (by decide) zm_f_X2_9 rfl dX2_forget_1 ?_
  refine lv_iconst (v := 0) C.1 C.2.1 dX2_forget_4 (by decide) ?_
  obtain ⟨S1, hc, h⟩ := zc_b1_x h
  refine zr_callSv C w (As := [.ref (zg_q G 32), .int (0 : Int32)]) (zm_J7_fill_53178_32 l G _ _ _ hc) zm_c_J7_fill_53178 zm_l_X2_47 zm_s_J7_fill_53178 zm_0_J7 zm_d_J7_fill_53178 ⟨rfl, rfl⟩ ⟨Nat.le_of_ble_eq_true rfl, Nat.le_of_ble_eq_true rfl⟩ hl.1 rfl rfl (Nat.le_of_ble_eq_true rfl) dX2_forget_5 ⟨Nat.le_of_ble_eq_true rfl, Nat.le_of_ble_eq_true rfl⟩ (fun H locs w => ?_)
  clear hc
  exact zr_retv C w hr dX2_forget_8 (Option.some.inj h)
set_option maxHeartbeats 4000000 in
set_option maxRecDepth 100000 in
theorem zk_J7_fill_53178_5_36 {p : Program} {l : Launch} {e : Env} {s : State} {m : MethodId} {args : Array Value} {below : List Frame} {meth : Method} {c : Code} {G : zg_T} {Q : State → Prop} (C : zx_C p s m args meth c G RJ7 cJ7_fill_53178 4) (f1 : Int32) (f3 : Int32) (oS : zs_T) (kont : ∀ (H : Heap) (locs : List Loc) (ls : Array Slot), zg_W G oS s H locs → lv_has ls 4 [] → W p l e zr_m_J7_fill_53178 s m args below meth c H locs 0 0 Q (F0 m 20 ls [])) : ∀ (n : Nat) (S : zs_T) (x2 : Int32), zl_2 (zb_J7_fill_53178_5 36 280 f1 f3) n S x2 = some oS → ∀ (H : Heap) (locs : List Loc) (ls : Array Slot), zg_W G S s H locs → lv_has ls 4 [(0, .ref (zg_q G 36)), (1, .int f1), (2, .int x2), (3, .int f3)] → W p l e zr_m_J7_fill_53178 s m args below meth c H locs 0 0 Q (F0 m 5 ls []) := by
  intro n
  induction n with
  | zero => intro S x2 h; cases h
  | succ n ih =>
    intro S x2 h H locs ls w hl
    replace h : zb_J7_fill_53178_5 36 280 f1 f3 (zl_2 (zb_J7_fill_53178_5 36 280 f1 f3) n) S x2 = some oS := h
    generalize zl_2 (zb_J7_fill_53178_5 36 280 f1 f3) n = rec at ih h
    unfold zb_J7_fill_53178_5 at h
    refine lv_iload_n C.1 C.2.1 dJ7_fill_53178_5 rfl (lv_at hl 2 rfl) ?_
    refine lv_iload_n C.1 C.2.1 dJ7_fill_53178_6 rfl (lv_at hl 3 rfl) ?_
    refine zr_ic_ge (tgt := 20) C dJ7_fill_53178_7 (by decide) h (fun h => ?_) (fun h => ?_)
    · cases h
      exact kont _ _ _ w (lv_sub hl [] rfl)
    · refine lv_aload_n C.1 C.2.1 dJ7_fill_53178_10 rfl (lv_at hl 0 rfl) ?_
      refine lv_iload_n C.1 C.2.1 dJ7_fill_53178_11 rfl (lv_at hl 2 rfl) ?_
      refine lv_iload_n C.1 C.2.1 dJ7_fill_53178_12 rfl (lv_at hl 1 rfl) ?_
      refine zr_iast C w 36 (zw_g36 G _) (zw_s36 G _) dJ7_fill_53178_13 h (fun S2 H locs w h => ?_)
      obtain ⟨v3, e_, h⟩ := zc_lt_x h
      refine lv_iinc (v := v3) (lv' := [(2, .int v3), (0, .ref (zg_q G 36)), (1, .int f1), (3, .int f3)]) C.1 C.2.1 dJ7_fill_53178_14 hl (k := 2) rfl (by subst e_; rfl) (by decide) rfl (fun ls hl => ?_)
      clear e_
      refine lv_goto (tgt := 5) C.1 C.2.1 dJ7_fill_53178_17 (by decide) ?_
      exact ih _ _ h _ _ _ w (lv_sub hl [1, 2, 0, 3] rfl)
set_option maxHeartbeats 4000000 in
set_option maxRecDepth 100000 in
theorem zm_J7_fill_53178_36 (l : Launch) (G : zg_T) (S : zs_T) (a1 : Int32) (S1 : zs_T) (h : zf_J7_fill_53178 36 280 S a1 = some S1) : Met l yJ7_fill_53178 (Cond.code yJ7_fill_53178 cJ7_fill_53178 4 none :: zt_G) zr_m_J7_fill_53178 (va_Pc [.ref (zg_q G 36), .int a1] (zg_P G S)) (zg_Q G none S1) 0 0 (zg_A G) := by
  refine zx_met (by decide +kernel) (Nat.le_of_ble_eq_true rfl) (lv := [(0, .ref (zg_q G 36)), (1, .int a1)]) rfl ?_
  intro p e s m below meth c C hr w ls hl
  replace C : zx_C p s m _ meth c G RJ7 cJ7_fill_53178 4 := C
  unfold zf_J7_fill_53178 at h
  refine lv_iconst (v := 0) C.1 C.2.1 dJ7_fill_53178_0 (by decide) ?_
  refine lv_istore_n (lv' := [(2, .int (0 : Int32)), (0, .ref (zg_q G 36)), (1, .int a1)]) C.1 C.2.1 dJ7_fill_53178_1 rfl hl (by decide) rfl (fun ls hl => ?_)
  refine lv_aload_n C.1 C.2.1 dJ7_fill_53178_2 rfl (lv_at hl 1 rfl) ?_
  refine zr_alen C w 36 (zw_g36 G _) rfl dJ7_fill_53178_3 ?_
  refine zr_lti h (fun v1 h => ?_)
  refine lv_istore_n (lv' := [(3, .int v1), (2, .int (0 : Int32)), (0, .ref (zg_q G 36)), (1, .int a1)]) C.1 C.2.1 dJ7_fill_53178_4 rfl hl (by decide) rfl (fun ls hl => ?_)
  obtain ⟨S4, hc, h⟩ := zc_b1_x h
  refine zk_J7_fill_53178_5_36 C a1 v1 S4 (fun H locs ls w hl => ?_) _ _ _ hc _ _ _ w (lv_sub hl [2, 3, 1, 0] rfl)
  clear hc
  exact zr_retv C w hr dJ7_fill_53178_20 (Option.some.inj h)
set_option maxHeartbeats 4000000 in
set_option maxRecDepth 100000 in
theorem zm_X5_forget_35 (l : Launch) (G : zg_T) (S : zs_T) (S1 : zs_T) (h : zf_X5_forget 36 S = some S1) : Met l yX5_forget (Cond.code yX5_forget cX5_forget 1 none :: zt_G) zr_m_X5_forget (va_Pc [.ref (zg_q G 35)] (zg_P G S)) (zg_Q G none S1) 0 0 (zg_A G) := by
  refine zx_met (by decide +kernel) (Nat.le_of_ble_eq_true rfl) (lv := [(0, .ref (zg_q G 35))]) rfl ?_
  intro p e s m below meth c C hr w ls hl
  replace C : zx_C p s m _ meth c G RX5 cX5_forget 1 := C
  unfold zf_X5_forget at h
  refine lv_aload_n C.1 C.2.1 dX5_forget_0 rfl (lv_at hl 0 rfl) ?_
  refine zr_get C w 35 zm_w_X5 (zw_g35 G _) rfl 0 (by decide) zm_f_X5_9 rfl dX5_forget_1 ?_
  refine lv_iconst (v := 0) C.1 C.2.1 dX5_forget_4 (by decide) ?_
  obtain ⟨S1, hc, h⟩ := zc_b1_x h
  refine zr_callSv C w (As := [.ref (zg_q G 36), .int (0 : Int32)]) (zm_J7_fill_53178_36 l G _ _ _ hc) zm_c_J7_fill_53178 zm_l_X5_40 zm_s_J7_fill_53178 zm_0_J7 zm_d_J7_fill_53178 ⟨rfl, rfl⟩ ⟨Nat.le_of_ble_eq_true rfl, Nat.le_of_ble_eq_true rfl⟩ hl.1 rfl rfl (Nat.le_of_ble_eq_true rfl) dX5_forget_5 ⟨Nat.le_of_ble_eq_true rfl, Nat.le_of_ble_eq_true rfl⟩ (fun H locs w => ?_)
  clear hc
  exact zr_retv C w hr dX5_forget_8 (Option.some.inj h)
set_option maxHeartbeats 4000000 in
set_option maxRecDepth 100000 in
theorem zk_J7_fill_53178_5_30 {p : Program} {l : Launch} {e : Env} {s : State} {m : MethodId} {args : Array Value} {below : List Frame} {meth : Method} {c : Code} {G : zg_T} {Q : State → Prop} (C : zx_C p s m args meth c G RJ7 cJ7_fill_53178 4) (f1 : Int32) (f3 : Int32) (oS : zs_T) (kont : ∀ (H : Heap) (locs : List Loc) (ls : Array Slot), zg_W G oS s H locs → lv_has ls 4 [] → W p l e zr_m_J7_fill_53178 s m args below meth c H locs 0 0 Q (F0 m 20 ls [])) : ∀ (n : Nat) (S : zs_T) (x2 : Int32), zl_2 (zb_J7_fill_53178_5 30 9 f1 f3) n S x2 = some oS → ∀ (H : Heap) (locs : List Loc) (ls : Array Slot), zg_W G S s H locs → lv_has ls 4 [(0, .ref (zg_q G 30)), (1, .int f1), (2, .int x2), (3, .int f3)] → W p l e zr_m_J7_fill_53178 s m args below meth c H locs 0 0 Q (F0 m 5 ls []) := by
  intro n
  induction n with
  | zero => intro S x2 h; cases h
  | succ n ih =>
    intro S x2 h H locs ls w hl
    replace h : zb_J7_fill_53178_5 30 9 f1 f3 (zl_2 (zb_J7_fill_53178_5 30 9 f1 f3) n) S x2 = some oS := h
    generalize zl_2 (zb_J7_fill_53178_5 30 9 f1 f3) n = rec at ih h
    unfold zb_J7_fill_53178_5 at h
    refine lv_iload_n C.1 C.2.1 dJ7_fill_53178_5 rfl (lv_at hl 2 rfl) ?_
    refine lv_iload_n C.1 C.2.1 dJ7_fill_53178_6 rfl (lv_at hl 3 rfl) ?_
    refine zr_ic_ge (tgt := 20) C dJ7_fill_53178_7 (by decide) h (fun h => ?_) (fun h => ?_)
    · cases h
      exact kont _ _ _ w (lv_sub hl [] rfl)
    · refine lv_aload_n C.1 C.2.1 dJ7_fill_53178_10 rfl (lv_at hl 0 rfl) ?_
      refine lv_iload_n C.1 C.2.1 dJ7_fill_53178_11 rfl (lv_at hl 2 rfl) ?_
      refine lv_iload_n C.1 C.2.1 dJ7_fill_53178_12 rfl (lv_at hl 1 rfl) ?_
      refine zr_iast C w 30 (zw_g30 G _) (zw_s30 G _) dJ7_fill_53178_13 h (fun S2 H locs w h => ?_)
      obtain ⟨v3, e_, h⟩ := zc_lt_x h
      refine lv_iinc (v := v3) (lv' := [(2, .int v3), (0, .ref (zg_q G 30)), (1, .int f1), (3, .int f3)]) C.1 C.2.1 dJ7_fill_53178_14 hl (k := 2) rfl (by subst e_; rfl) (by decide) rfl (fun ls hl => ?_)
      clear e_
      refine lv_goto (tgt := 5) C.1 C.2.1 dJ7_fill_53178_17 (by decide) ?_
      exact ih _ _ h _ _ _ w (lv_sub hl [1, 2, 0, 3] rfl)
set_option maxHeartbeats 4000000 in
set_option maxRecDepth 100000 in
theorem zm_J7_fill_53178_30 (l : Launch) (G : zg_T) (S : zs_T) (a1 : Int32) (S1 : zs_T) (h : zf_J7_fill_53178 30 9 S a1 = some S1) : Met l yJ7_fill_53178 (Cond.code yJ7_fill_53178 cJ7_fill_53178 4 none :: zt_G) zr_m_J7_fill_53178 (va_Pc [.ref (zg_q G 30), .int a1] (zg_P G S)) (zg_Q G none S1) 0 0 (zg_A G) := by
  refine zx_met (by decide +kernel) (Nat.le_of_ble_eq_true rfl) (lv := [(0, .ref (zg_q G 30)), (1, .int a1)]) rfl ?_
  intro p e s m below meth c C hr w ls hl
  replace C : zx_C p s m _ meth c G RJ7 cJ7_fill_53178 4 := C
  unfold zf_J7_fill_53178 at h
  refine lv_iconst (v := 0) C.1 C.2.1 dJ7_fill_53178_0 (by decide) ?_
  refine lv_istore_n (lv' := [(2, .int (0 : Int32)), (0, .ref (zg_q G 30)), (1, .int a1)]) C.1 C.2.1 dJ7_fill_53178_1 rfl hl (by decide) rfl (fun ls hl => ?_)
  refine lv_aload_n C.1 C.2.1 dJ7_fill_53178_2 rfl (lv_at hl 1 rfl) ?_
  refine zr_alen C w 30 (zw_g30 G _) rfl dJ7_fill_53178_3 ?_
  refine zr_lti h (fun v1 h => ?_)
  refine lv_istore_n (lv' := [(3, .int v1), (2, .int (0 : Int32)), (0, .ref (zg_q G 30)), (1, .int a1)]) C.1 C.2.1 dJ7_fill_53178_4 rfl hl (by decide) rfl (fun ls hl => ?_)
  obtain ⟨S4, hc, h⟩ := zc_b1_x h
  refine zk_J7_fill_53178_5_30 C a1 v1 S4 (fun H locs ls w hl => ?_) _ _ _ hc _ _ _ w (lv_sub hl [2, 3, 1, 0] rfl)
  clear hc
  exact zr_retv C w hr dJ7_fill_53178_20 (Option.some.inj h)
set_option maxHeartbeats 4000000 in
set_option maxRecDepth 100000 in
theorem zm_X0_forget (l : Launch) (G : zg_T) (S : zs_T) (S1 : zs_T) (h : zf_X0_forget S = some S1) : Met l yX0_forget (Cond.code yX0_forget cX0_forget 1 none :: zt_G) zr_m_X0_forget (va_Pc [.ref (zg_q G 29)] (zg_P G S)) (zg_Q G none S1) 0 0 (zg_A G) := by
  refine zx_met (by decide +kernel) (Nat.le_of_ble_eq_true rfl) (lv := [(0, .ref (zg_q G 29))]) rfl ?_
  intro p e s m below meth c C hr w ls hl
  replace C : zx_C p s m _ meth c G RX0 cX0_forget 1 := C
  unfold zf_X0_forget at h
  refine lv_aload_n C.1 C.2.1 dX0_forget_0 rfl (lv_at hl 0 rfl) ?_
  refine zr_get C w 29 zm_w_X0 (zw_g29 G _) rfl 0 (by decide) zm_f_X0_12 rfl dX0_forget_1 ?_
  obtain ⟨S1, hc, h⟩ := zc_b1_x h
  refine zr_callVv C w 31 (zw_g31 G _) rfl (As := []) (zm_X2_forget_31 l G _ _ hc) zm_c_X2_forget zm_l_X0_57 zm_i_X2_forget zm_e_X2_forget zm_0_X2 zm_d_X2_forget ⟨rfl, rfl⟩ ⟨Nat.le_of_ble_eq_true rfl, Nat.le_of_ble_eq_true rfl⟩ hl.1 rfl rfl (Nat.le_of_ble_eq_true rfl) dX0_forget_4 ⟨Nat.le_of_ble_eq_true rfl, Nat.le_of_ble_eq_true rfl⟩ (fun H locs w => ?_)
  clear hc
  refine lv_aload_n C.1 C.2.1 dX0_forget_7 rfl (lv_at hl 0 rfl) ?_
  refine zr_get C w 29 zm_w_X0 (zw_g29 G _) rfl 1 (by decide) zm_f_X0_21 rfl dX0_forget_8 ?_
  obtain ⟨S2, hc, h⟩ := zc_b1_x h
  refine zr_callVv C w 35 (zw_g35 G _) rfl (As := []) (zm_X5_forget_35 l G _ _ hc) zm_c_X5_forget zm_l_X0_60 zm_i_X5_forget zm_e_X5_forget zm_0_X5 zm_d_X5_forget ⟨rfl, rfl⟩ ⟨Nat.le_of_ble_eq_true rfl, Nat.le_of_ble_eq_true rfl⟩ hl.1 rfl rfl (Nat.le_of_ble_eq_true rfl) dX0_forget_11 ⟨Nat.le_of_ble_eq_true rfl, Nat.le_of_ble_eq_true rfl⟩ (fun H locs w => ?_)
  clear hc
  refine lv_aload_n C.1 C.2.1 dX0_forget_14 rfl (lv_at hl 0 rfl) ?_
  refine zr_get C w 29 zm_w_X0 (zw_g29 G _) rfl 3 (by decide) zm_f_X0_32 rfl dX0_forget_15 ?_
  refine lv_iconst (v := 0) C.1 C.2.1 dX0_forget_18 (by decide) ?_
  obtain ⟨S3, hc, h⟩ := zc_b1_x h
  refine zr_callSv C w (As := [.ref (zg_q G 30), .int (0 : Int32)]) (zm_J7_fill_53178_30 l G _ _ _ hc) zm_c_J7_fill_53178 zm_l_X0_61 zm_s_J7_fill_53178 zm_0_J7 zm_d_J7_fill_53178 ⟨rfl, rfl⟩ ⟨Nat.le_of_ble_eq_true rfl, Nat.le_of_ble_eq_true rfl⟩ hl.1 rfl rfl (Nat.le_of_ble_eq_true rfl) dX0_forget_19 ⟨Nat.le_of_ble_eq_true rfl, Nat.le_of_ble_eq_true rfl⟩ (fun H locs w => ?_)
  clear hc
  refine lv_aload_n C.1 C.2.1 dX0_forget_22 rfl (lv_at hl 0 rfl) ?_
  refine lv_bipush (v := 40) C.1 C.2.1 dX0_forget_23 (by decide) ?_
  refine zr_put C w 29 zm_w_X0 tyX0 tyX0_ok nmX0 (zw_g29 G _) rfl 4 (by decide) zm_f_X0_36 rfl (ty := .int) (by decide +kernel) rfl rfl (Nat.le_of_ble_eq_true rfl) (zw_f29_4 G _ _) dX0_forget_25 h (fun S4 H locs w h => ?_)
  refine lv_aload_n C.1 C.2.1 dX0_forget_28 rfl (lv_at hl 0 rfl) ?_
  refine lv_iconst (v := 0) C.1 C.2.1 dX0_forget_29 (by decide) ?_
  refine zr_put C w 29 zm_w_X0 tyX0 tyX0_ok nmX0 (zw_g29 G _) rfl 5 (by decide) zm_f_X0_67 rfl (ty := .int) (by decide +kernel) rfl rfl (Nat.le_of_ble_eq_true rfl) (zw_f29_5 G _ _) dX0_forget_30 h (fun S5 H locs w h => ?_)
  refine lv_aload_n C.1 C.2.1 dX0_forget_33 rfl (lv_at hl 0 rfl) ?_
  refine lv_iconst (v := 0) C.1 C.2.1 dX0_forget_34 (by decide) ?_
  refine zr_put C w 29 zm_w_X0 tyX0 tyX0_ok nmX0 (zw_g29 G _) rfl 6 (by decide) zm_f_X0_54 rfl (ty := .int) (by decide +kernel) rfl rfl (Nat.le_of_ble_eq_true rfl) (zw_f29_6 G _ _) dX0_forget_35 h (fun S6 H locs w h => ?_)
  exact zr_retv C w hr dX0_forget_38 (Option.some.inj h)
set_option maxHeartbeats 4000000 in
set_option maxRecDepth 100000 in
theorem zk_J7_fill_53178_5_2 {p : Program} {l : Launch} {e : Env} {s : State} {m : MethodId} {args : Array Value} {below : List Frame} {meth : Method} {c : Code} {G : zg_T} {Q : State → Prop} (C : zx_C p s m args meth c G RJ7 cJ7_fill_53178 4) (f1 : Int32) (f3 : Int32) (oS : zs_T) (kont : ∀ (H : Heap) (locs : List Loc) (ls : Array Slot), zg_W G oS s H locs → lv_has ls 4 [] → W p l e zr_m_J7_fill_53178 s m args below meth c H locs 0 0 Q (F0 m 20 ls [])) : ∀ (n : Nat) (S : zs_T) (x2 : Int32), zl_2 (zb_J7_fill_53178_5 2 33 f1 f3) n S x2 = some oS → ∀ (H : Heap) (locs : List Loc) (ls : Array Slot), zg_W G S s H locs → lv_has ls 4 [(0, .ref (zg_q G 2)), (1, .int f1), (2, .int x2), (3, .int f3)] → W p l e zr_m_J7_fill_53178 s m args below meth c H locs 0 0 Q (F0 m 5 ls []) := by
  intro n
  induction n with
  | zero => intro S x2 h; cases h
  | succ n ih =>
    intro S x2 h H locs ls w hl
    replace h : zb_J7_fill_53178_5 2 33 f1 f3 (zl_2 (zb_J7_fill_53178_5 2 33 f1 f3) n) S x2 = some oS := h
    generalize zl_2 (zb_J7_fill_53178_5 2 33 f1 f3) n = rec at ih h
    unfold zb_J7_fill_53178_5 at h
    refine lv_iload_n C.1 C.2.1 dJ7_fill_53178_5 rfl (lv_at hl 2 rfl) ?_
    refine lv_iload_n C.1 C.2.1 dJ7_fill_53178_6 rfl (lv_at hl 3 rfl) ?_
    refine zr_ic_ge (tgt := 20) C dJ7_fill_53178_7 (by decide) h (fun h => ?_) (fun h => ?_)
    · cases h
      exact kont _ _ _ w (lv_sub hl [] rfl)
    · refine lv_aload_n C.1 C.2.1 dJ7_fill_53178_10 rfl (lv_at hl 0 rfl) ?_
      refine lv_iload_n C.1 C.2.1 dJ7_fill_53178_11 rfl (lv_at hl 2 rfl) ?_
      refine lv_iload_n C.1 C.2.1 dJ7_fill_53178_12 rfl (lv_at hl 1 rfl) ?_
      refine zr_iast C w 2 (zw_g2 G _) (zw_s2 G _) dJ7_fill_53178_13 h (fun S2 H locs w h => ?_)
      obtain ⟨v3, e_, h⟩ := zc_lt_x h
      refine lv_iinc (v := v3) (lv' := [(2, .int v3), (0, .ref (zg_q G 2)), (1, .int f1), (3, .int f3)]) C.1 C.2.1 dJ7_fill_53178_14 hl (k := 2) rfl (by subst e_; rfl) (by decide) rfl (fun ls hl => ?_)
      clear e_
      refine lv_goto (tgt := 5) C.1 C.2.1 dJ7_fill_53178_17 (by decide) ?_
      exact ih _ _ h _ _ _ w (lv_sub hl [1, 2, 0, 3] rfl)
set_option maxHeartbeats 4000000 in
set_option maxRecDepth 100000 in
theorem zm_J7_fill_53178_2 (l : Launch) (G : zg_T) (S : zs_T) (a1 : Int32) (S1 : zs_T) (h : zf_J7_fill_53178 2 33 S a1 = some S1) : Met l yJ7_fill_53178 (Cond.code yJ7_fill_53178 cJ7_fill_53178 4 none :: zt_G) zr_m_J7_fill_53178 (va_Pc [.ref (zg_q G 2), .int a1] (zg_P G S)) (zg_Q G none S1) 0 0 (zg_A G) := by
  refine zx_met (by decide +kernel) (Nat.le_of_ble_eq_true rfl) (lv := [(0, .ref (zg_q G 2)), (1, .int a1)]) rfl ?_
  intro p e s m below meth c C hr w ls hl
  replace C : zx_C p s m _ meth c G RJ7 cJ7_fill_53178 4 := C
  unfold zf_J7_fill_53178 at h
  refine lv_iconst (v := 0) C.1 C.2.1 dJ7_fill_53178_0 (by decide) ?_
  refine lv_istore_n (lv' := [(2, .int (0 : Int32)), (0, .ref (zg_q G 2)), (1, .int a1)]) C.1 C.2.1 dJ7_fill_53178_1 rfl hl (by decide) rfl (fun ls hl => ?_)
  refine lv_aload_n C.1 C.2.1 dJ7_fill_53178_2 rfl (lv_at hl 1 rfl) ?_
  refine zr_alen C w 2 (zw_g2 G _) rfl dJ7_fill_53178_3 ?_
  refine zr_lti h (fun v1 h => ?_)
  refine lv_istore_n (lv' := [(3, .int v1), (2, .int (0 : Int32)), (0, .ref (zg_q G 2)), (1, .int a1)]) C.1 C.2.1 dJ7_fill_53178_4 rfl hl (by decide) rfl (fun ls hl => ?_)
  obtain ⟨S4, hc, h⟩ := zc_b1_x h
  refine zk_J7_fill_53178_5_2 C a1 v1 S4 (fun H locs ls w hl => ?_) _ _ _ hc _ _ _ w (lv_sub hl [2, 3, 1, 0] rfl)
  clear hc
  exact zr_retv C w hr dJ7_fill_53178_20 (Option.some.inj h)
set_option maxHeartbeats 4000000 in
set_option maxRecDepth 100000 in
theorem zm_X10_bitsOf (l : Launch) (G : zg_T) (S : zs_T) (a1 : Int32) (r : Int32) (h : zf_X10_bitsOf a1 = some r) : Met l yX10_bitsOf (Cond.code yX10_bitsOf cX10_bitsOf 2 (some .int) :: zt_G) zr_m_X10_bitsOf (va_Pc [.int a1] (zg_P G S)) (zg_Q G (some (.int r)) S) 0 0 (zg_A G) := by
  refine zx_met (by decide +kernel) (Nat.le_of_ble_eq_true rfl) (lv := [(0, .int a1)]) rfl ?_
  intro p e s m below meth c C hr w ls hl
  replace C : zx_C p s m _ meth c G RX10 cX10_bitsOf 2 := C
  unfold zf_X10_bitsOf at h
  refine lv_iload_n C.1 C.2.1 dX10_bitsOf_0 rfl (lv_at hl 0 rfl) ?_
  refine lv_bipush (v := 8) C.1 C.2.1 dX10_bitsOf_1 (by decide) ?_
  refine zr_ic_ge (tgt := 12) C dX10_bitsOf_3 (by decide) h (fun h => ?_) (fun h => ?_)
  · refine lv_iload_n C.1 C.2.1 dX10_bitsOf_12 rfl (lv_at hl 0 rfl) ?_
    refine lv_bipush (v := 8) C.1 C.2.1 dX10_bitsOf_13 (by decide) ?_
    refine lv_isub C.1 C.2.1 dX10_bitsOf_15 ?_
    refine lv_bipush (v := 17) C.1 C.2.1 dX10_bitsOf_16 (by decide) ?_
    refine lv_irem C.1 C.2.1 dX10_bitsOf_18 (by decide) ?_
    refine zr_lti h (fun v1 h => ?_)
    refine lv_istore_n (lv' := [(1, .int v1), (0, .int a1)]) C.1 C.2.1 dX10_bitsOf_19 rfl hl (by decide) rfl (fun ls hl => ?_)
    refine lv_iload_n C.1 C.2.1 dX10_bitsOf_20 rfl (lv_at hl 0 rfl) ?_
    refine zr_gets C w 1 (by decide) zm_f_X10_150 dX10_bitsOf_21 ?_
    refine zr_tlen C w 1 (by decide) (v := 4) (by decide) dX10_bitsOf_24 ?_
    refine zr_ic_ge (tgt := 36) C dX10_bitsOf_25 (by decide) h (fun h => ?_) (fun h => ?_)
    · refine lv_iconst (v := 3) C.1 C.2.1 dX10_bitsOf_36 (by decide) ?_
      exact zr_reti C w hr dX10_bitsOf_37 (Option.some.inj h) rfl
    · refine zr_gets C w 1 (by decide) zm_f_X10_150 dX10_bitsOf_28 ?_
      refine lv_iload_n C.1 C.2.1 dX10_bitsOf_31 rfl (lv_at hl 0 rfl) ?_
      refine zr_tab C w 1 (by decide) (n := 4) rfl (g := zt_v1) rfl dX10_bitsOf_32 h (fun h => ?_)
      refine lv_goto (tgt := 37) C.1 C.2.1 dX10_bitsOf_33 (by decide) ?_
      exact zr_reti C w hr dX10_bitsOf_37 (Option.some.inj h) rfl
  · refine zr_gets C w 0 (by decide) zm_f_X10_147 dX10_bitsOf_6 ?_
    refine lv_iload_n C.1 C.2.1 dX10_bitsOf_9 rfl (lv_at hl 0 rfl) ?_
    refine zr_tab C w 0 (by decide) (n := 8) rfl (g := zt_v0) rfl dX10_bitsOf_10 h (fun h => ?_)
    exact zr_reti C w hr dX10_bitsOf_11 (Option.some.inj h) rfl
