set_option maxHeartbeats 4000000 in
set_option maxRecDepth 100000 in
theorem zm_X11_tableB (l : Launch) (G : zg_T) (S : zs_T) (a1 : Int32) (r : Int32) (h : zf_X11_tableB a1 = r) : Met l yX11_tableB (Cond.code yX11_tableB cX11_tableB 1 (some .int) :: zt_G) zr_m_X11_tableB (va_Pc [.int a1] (zg_P G S)) (zg_Q G (some (.int r)) S) 0 0 (zg_A G) := by
  refine zx_met (by decide +kernel) (Nat.le_of_ble_eq_true rfl) (lv := [(0, .int a1)]) rfl ?_
  intro p e s m below meth c C hr w ls hl
  replace C : zx_C p s m _ meth c G RX11 cX11_tableB 1 := C
  unfold zf_X11_tableB at h
  refine lv_iload_n C.1 C.2.1 dX11_tableB_0 rfl (lv_at hl 0 rfl) ?_
  by_cases c0 : a1 = (2 : Int32)
  · replace h := (if_pos c0).symm.trans h
    refine lv_tableIn (tgt := 40) C.1 C.2.1 dX11_tableB_1 (by rw [c0]; decide) (by rw [c0]; decide) (by rw [c0]; rfl) (by decide) ?_
    refine lv_sipush (v := 2048) C.1 C.2.1 dX11_tableB_40 (by decide) ?_
    exact zr_reti C w hr dX11_tableB_43 h rfl
  replace h := (if_neg c0).symm.trans h
  by_cases c1 : a1 = (3 : Int32)
  · replace h := (if_pos c1).symm.trans h
    refine lv_tableIn (tgt := 44) C.1 C.2.1 dX11_tableB_1 (by rw [c1]; decide) (by rw [c1]; decide) (by rw [c1]; rfl) (by decide) ?_
    refine lv_sipush (v := -2560) C.1 C.2.1 dX11_tableB_44 (by decide) ?_
    exact zr_reti C w hr dX11_tableB_47 h rfl
  replace h := (if_neg c1).symm.trans h
  by_cases c2 : a1 = (4 : Int32)
  · replace h := (if_pos c2).symm.trans h
    refine lv_tableIn (tgt := 48) C.1 C.2.1 dX11_tableB_1 (by rw [c2]; decide) (by rw [c2]; decide) (by rw [c2]; rfl) (by decide) ?_
    refine lv_bipush (v := 94) C.1 C.2.1 dX11_tableB_48 (by decide) ?_
    exact zr_reti C w hr dX11_tableB_50 h rfl
  replace h := (if_neg c2).symm.trans h
  by_cases c3 : a1 = (5 : Int32)
  · replace h := (if_pos c3).symm.trans h
    refine lv_tableIn (tgt := 51) C.1 C.2.1 dX11_tableB_1 (by rw [c3]; decide) (by rw [c3]; decide) (by rw [c3]; rfl) (by decide) ?_
    refine lv_sipush (v := -1792) C.1 C.2.1 dX11_tableB_51 (by decide) ?_
    exact zr_reti C w hr dX11_tableB_54 h rfl
  replace h := (if_neg c3).symm.trans h
  by_cases c4 : a1 = (6 : Int32)
  · replace h := (if_pos c4).symm.trans h
    refine lv_tableIn (tgt := 55) C.1 C.2.1 dX11_tableB_1 (by rw [c4]; decide) (by rw [c4]; decide) (by rw [c4]; rfl) (by decide) ?_
    refine lv_sipush (v := -341) C.1 C.2.1 dX11_tableB_55 (by decide) ?_
    exact zr_reti C w hr dX11_tableB_58 h rfl
  replace h := (if_neg c4).symm.trans h
  by_cases c5 : a1 = (7 : Int32)
  · replace h := (if_pos c5).symm.trans h
    refine lv_tableIn (tgt := 59) C.1 C.2.1 dX11_tableB_1 (by rw [c5]; decide) (by rw [c5]; decide) (by rw [c5]; rfl) (by decide) ?_
    refine lv_sipush (v := -1144) C.1 C.2.1 dX11_tableB_59 (by decide) ?_
    exact zr_reti C w hr dX11_tableB_62 h rfl
  replace h := (if_neg c5).symm.trans h
  refine lv_tableOut (tgt := 63) C.1 C.2.1 dX11_tableB_1 (by have q0 := lv_neT (a := 2) c0 rfl; have q1 := lv_neT (a := 3) c1 rfl; have q2 := lv_neT (a := 4) c2 rfl; have q3 := lv_neT (a := 5) c3 rfl; have q4 := lv_neT (a := 6) c4 rfl; have q5 := lv_neT (a := 7) c5 rfl; omega) (by decide) ?_
  refine lv_iconst (v := 0) C.1 C.2.1 dX11_tableB_63 (by decide) ?_
  exact zr_reti C w hr dX11_tableB_64 h rfl
set_option maxHeartbeats 4000000 in
set_option maxRecDepth 100000 in
theorem zm_X11_least (l : Launch) (G : zg_T) (S : zs_T) (a1 : Int32) (r : Int32) (h : zf_X11_least a1 = r) : Met l yX11_least (Cond.code yX11_least cX11_least 1 (some .int) :: zt_G) zr_m_X11_least (va_Pc [.int a1] (zg_P G S)) (zg_Q G (some (.int r)) S) 0 0 (zg_A G) := by
  refine zx_met (by decide +kernel) (Nat.le_of_ble_eq_true rfl) (lv := [(0, .int a1)]) rfl ?_
  intro p e s m below meth c C hr w ls hl
  replace C : zx_C p s m _ meth c G RX11 cX11_least 1 := C
  unfold zf_X11_least at h
  refine lv_iload_n C.1 C.2.1 dX11_least_0 rfl (lv_at hl 0 rfl) ?_
  refine lv_iconst (v := 2) C.1 C.2.1 dX11_least_1 (by decide) ?_
  refine zr_ic_ge (tgt := 10) C dX11_least_2 (by decide) h (fun h => ?_) (fun h => ?_)
  · refine lv_iload_n C.1 C.2.1 dX11_least_10 rfl (lv_at hl 0 rfl) ?_
    refine lv_iconst (v := 4) C.1 C.2.1 dX11_least_11 (by decide) ?_
    refine zr_ic_ge (tgt := 20) C dX11_least_12 (by decide) h (fun h => ?_) (fun h => ?_)
    · refine lv_iload_n C.1 C.2.1 dX11_least_20 rfl (lv_at hl 0 rfl) ?_
      refine lv_bipush (v := 6) C.1 C.2.1 dX11_least_21 (by decide) ?_
      refine zr_ic_ge (tgt := 31) C dX11_least_23 (by decide) h (fun h => ?_) (fun h => ?_)
      · refine lv_bipush (v := -4) C.1 C.2.1 dX11_least_31 (by decide) ?_
        exact zr_reti C w hr dX11_least_33 h rfl
      · refine lv_bipush (v := -8) C.1 C.2.1 dX11_least_26 (by decide) ?_
        refine lv_goto (tgt := 33) C.1 C.2.1 dX11_least_28 (by decide) ?_
        exact zr_reti C w hr dX11_least_33 h rfl
    · refine lv_bipush (v := -16) C.1 C.2.1 dX11_least_15 (by decide) ?_
      refine lv_goto (tgt := 33) C.1 C.2.1 dX11_least_17 (by decide) ?_
      exact zr_reti C w hr dX11_least_33 h rfl
  · refine lv_bipush (v := -32) C.1 C.2.1 dX11_least_5 (by decide) ?_
    refine lv_goto (tgt := 33) C.1 C.2.1 dX11_least_7 (by decide) ?_
    exact zr_reti C w hr dX11_least_33 h rfl
set_option maxHeartbeats 4000000 in
set_option maxRecDepth 100000 in
theorem zq_X11_tellsFilter_154 {p : Program} {l : Launch} {e : Env} {s : State} {m : MethodId} {args : Array Value} {below : List Frame} {meth : Method} {c : Code} {G : zg_T} {Q : State → Prop} (C : zx_C p s m args meth c G RX11 cX11_tellsFilter 8) (rec : zs_T → Int32 → Option zs_T) (S : zs_T) (y1 : Int32) (z0 : Int64) (oS : zs_T) (kont : ∀ (H : Heap) (locs : List Loc) (ls : Array Slot), zg_W G oS s H locs → lv_has ls 8 [] → W p l e zr_m_X11_tellsFilter s m args below meth c H locs 0 0 Q (F0 m 176 ls [])) (ih : ∀ (S : zs_T) (x1 : Int32), rec S x1 = some oS → ∀ (H : Heap) (locs : List Loc) (ls : Array Slot), zg_W G S s H locs → lv_has ls 8 [(0, .ref (zg_q G 40)), (1, .int x1)] → W p l e zr_m_X11_tellsFilter s m args below meth c H locs 0 0 Q (F0 m 2 ls [])) (h : zj_X11_tellsFilter_154 rec S y1 z0 = some oS) (H : Heap) (locs : List Loc) (ls : Array Slot) (w : zg_W G S s H locs) (hl : lv_has ls 8 [(0, .ref (zg_q G 40)), (1, .int y1)]) : W p l e zr_m_X11_tellsFilter s m args below meth c H locs 0 0 Q (F0 m 154 ls [.long z0]) := by
  unfold zj_X11_tellsFilter_154 at h
  refine lv_lstore (lv' := [(4, .long z0), (0, .ref (zg_q G 40)), (1, .int y1)]) C.1 C.2.1 dX11_tellsFilter_154 hl (by decide) rfl (fun ls hl => ?_)
  refine lv_aload_n C.1 C.2.1 dX11_tellsFilter_156 rfl (lv_at hl 1 rfl) ?_
  refine zr_get C w 40 zm_w_X11 (zw_g40 G _) rfl 5 (by decide) zm_f_X11_17 rfl dX11_tellsFilter_157 ?_
  refine lv_iload_n C.1 C.2.1 dX11_tellsFilter_160 rfl (lv_at hl 2 rfl) ?_
  refine lv_lload C.1 C.2.1 dX11_tellsFilter_161 (lv_at hl 0 rfl) ?_
  refine lv_l2i C.1 C.2.1 dX11_tellsFilter_163 rfl ?_
  refine lv_iload_n C.1 C.2.1 dX11_tellsFilter_164 rfl (lv_at hl 2 rfl) ?_
  refine zr_callSi C w (As := [.int y1]) (zm_X11_least l G _ _ _ rfl) zm_c_X11_least zm_l_X11_157 zm_s_X11_least zm_0_X11 zm_d_X11_least ⟨rfl, rfl⟩ ⟨Nat.le_of_ble_eq_true rfl, Nat.le_of_ble_eq_true rfl⟩ hl.1 rfl rfl (Nat.le_of_ble_eq_true rfl) dX11_tellsFilter_165 ⟨Nat.le_of_ble_eq_true rfl, Nat.le_of_ble_eq_true rfl⟩ (fun H locs w => ?_)
  refine zr_lti h (fun v11 h => ?_)
  refine lv_isub C.1 C.2.1 dX11_tellsFilter_168 ?_
  refine zr_iast C w 43 (zw_g43 G _) (zw_s43 G _) dX11_tellsFilter_169 h (fun S12 H locs w h => ?_)
  obtain ⟨v13, e_, h⟩ := zc_lt_x h
  refine lv_iinc (v := v13) (lv' := [(1, .int v13), (4, .long z0), (0, .ref (zg_q G 40))]) C.1 C.2.1 dX11_tellsFilter_170 hl (k := 2) rfl (by subst e_; rfl) (by decide) rfl (fun ls hl => ?_)
  clear e_
  refine lv_goto (tgt := 2) C.1 C.2.1 dX11_tellsFilter_173 (by decide) ?_
  exact ih _ _ h _ _ _ w (lv_sub hl [2, 0] rfl)
set_option maxHeartbeats 4000000 in
set_option maxRecDepth 100000 in
theorem zq_X11_tellsFilter_79 {p : Program} {l : Launch} {e : Env} {s : State} {m : MethodId} {args : Array Value} {below : List Frame} {meth : Method} {c : Code} {G : zg_T} {Q : State → Prop} (C : zx_C p s m args meth c G RX11 cX11_tellsFilter 8) (rec : zs_T → Int32 → Option zs_T) (S : zs_T) (y1 : Int32) (z0 : Int64) (oS : zs_T) (kont : ∀ (H : Heap) (locs : List Loc) (ls : Array Slot), zg_W G oS s H locs → lv_has ls 8 [] → W p l e zr_m_X11_tellsFilter s m args below meth c H locs 0 0 Q (F0 m 176 ls [])) (ih : ∀ (S : zs_T) (x1 : Int32), rec S x1 = some oS → ∀ (H : Heap) (locs : List Loc) (ls : Array Slot), zg_W G S s H locs → lv_has ls 8 [(0, .ref (zg_q G 40)), (1, .int x1)] → W p l e zr_m_X11_tellsFilter s m args below meth c H locs 0 0 Q (F0 m 2 ls [])) (h : zj_X11_tellsFilter_79 rec S y1 z0 = some oS) (H : Heap) (locs : List Loc) (ls : Array Slot) (w : zg_W G S s H locs) (hl : lv_has ls 8 [(0, .ref (zg_q G 40)), (1, .int y1)]) : W p l e zr_m_X11_tellsFilter s m args below meth c H locs 0 0 Q (F0 m 79 ls [.long z0]) := by
  unfold zj_X11_tellsFilter_79 at h
  refine lv_lstore_n (lv' := [(2, .long z0), (0, .ref (zg_q G 40)), (1, .int y1)]) C.1 C.2.1 dX11_tellsFilter_79 rfl hl (by decide) rfl (fun ls hl => ?_)
  refine lv_iload_n C.1 C.2.1 dX11_tellsFilter_80 rfl (lv_at hl 2 rfl) ?_
  refine zr_callSi C w (As := [.int y1]) (zm_X11_tableA l G _ _ _ rfl) zm_c_X11_tableA zm_l_X11_145 zm_s_X11_tableA zm_0_X11 zm_d_X11_tableA ⟨rfl, rfl⟩ ⟨Nat.le_of_ble_eq_true rfl, Nat.le_of_ble_eq_true rfl⟩ hl.1 rfl rfl (Nat.le_of_ble_eq_true rfl) dX11_tellsFilter_81 ⟨Nat.le_of_ble_eq_true rfl, Nat.le_of_ble_eq_true rfl⟩ (fun H locs w => ?_)
  refine zr_lti h (fun v2 h => ?_)
  refine lv_i2l C.1 C.2.1 dX11_tellsFilter_84 rfl ?_
  refine lv_lload_n C.1 C.2.1 dX11_tellsFilter_85 rfl (lv_at hl 0 rfl) ?_
  refine zr_callSl C w (As := [.long (Int32.toInt64 v2), .long z0]) (zm_X11_lower l G _ _ _ _ rfl) zm_c_X11_lower zm_l_X11_149 zm_s_X11_lower zm_0_X11 zm_d_X11_lower ⟨rfl, rfl⟩ ⟨Nat.le_of_ble_eq_true rfl, Nat.le_of_ble_eq_true rfl⟩ hl.1 rfl rfl (Nat.le_of_ble_eq_true rfl) dX11_tellsFilter_86 ⟨Nat.le_of_ble_eq_true rfl, Nat.le_of_ble_eq_true rfl⟩ (fun H locs w => ?_)
  refine zr_ltl h (fun v3 h => ?_)
  refine lv_iload_n C.1 C.2.1 dX11_tellsFilter_89 rfl (lv_at hl 2 rfl) ?_
  refine zr_callSi C w (As := [.int y1]) (zm_X11_tableB l G _ _ _ rfl) zm_c_X11_tableB zm_l_X11_152 zm_s_X11_tableB zm_0_X11 zm_d_X11_tableB ⟨rfl, rfl⟩ ⟨Nat.le_of_ble_eq_true rfl, Nat.le_of_ble_eq_true rfl⟩ hl.1 rfl rfl (Nat.le_of_ble_eq_true rfl) dX11_tellsFilter_90 ⟨Nat.le_of_ble_eq_true rfl, Nat.le_of_ble_eq_true rfl⟩ (fun H locs w => ?_)
  refine zr_lti h (fun v4 h => ?_)
  refine lv_i2l C.1 C.2.1 dX11_tellsFilter_93 rfl ?_
  refine lv_ladd C.1 C.2.1 dX11_tellsFilter_94 ?_
  refine zr_callSl C w (As := [.long (v3 + (Int32.toInt64 v4))]) (zm_X11_cut l G _ _ _ rfl) zm_c_X11_cut zm_l_X11_82 zm_s_X11_cut zm_0_X11 zm_d_X11_cut ⟨rfl, rfl⟩ ⟨Nat.le_of_ble_eq_true rfl, Nat.le_of_ble_eq_true rfl⟩ hl.1 rfl rfl (Nat.le_of_ble_eq_true rfl) dX11_tellsFilter_95 ⟨Nat.le_of_ble_eq_true rfl, Nat.le_of_ble_eq_true rfl⟩ (fun H locs w => ?_)
  refine zr_ltl h (fun v5 h => ?_)
  refine lv_ldc2 (v := 256) C.1 C.2.1 C.2.2.2.1 (C.2.2.2.2.1 _ zm_k_X11_155) dX11_tellsFilter_98 ?_
  refine lv_ladd C.1 C.2.1 dX11_tellsFilter_101 ?_
  refine zr_callSl C w (As := [.long (v5 + (256 : Int64))]) (zm_X11_cut l G _ _ _ rfl) zm_c_X11_cut zm_l_X11_82 zm_s_X11_cut zm_0_X11 zm_d_X11_cut ⟨rfl, rfl⟩ ⟨Nat.le_of_ble_eq_true rfl, Nat.le_of_ble_eq_true rfl⟩ hl.1 rfl rfl (Nat.le_of_ble_eq_true rfl) dX11_tellsFilter_102 ⟨Nat.le_of_ble_eq_true rfl, Nat.le_of_ble_eq_true rfl⟩ (fun H locs w => ?_)
  refine zr_ltl h (fun v6 h => ?_)
  refine lv_bipush (v := 9) C.1 C.2.1 dX11_tellsFilter_105 (by decide) ?_
  refine lv_lshr C.1 C.2.1 dX11_tellsFilter_107 rfl ?_
  refine zr_ltl h (fun v7 h => ?_)
  refine lv_lstore (lv' := [(4, .long v7), (2, .long z0), (0, .ref (zg_q G 40)), (1, .int y1)]) C.1 C.2.1 dX11_tellsFilter_108 hl (by decide) rfl (fun ls hl => ?_)
  refine lv_iload_n C.1 C.2.1 dX11_tellsFilter_110 rfl (lv_at hl 3 rfl) ?_
  refine zr_callSi C w (As := [.int y1]) (zm_X11_least l G _ _ _ rfl) zm_c_X11_least zm_l_X11_157 zm_s_X11_least zm_0_X11 zm_d_X11_least ⟨rfl, rfl⟩ ⟨Nat.le_of_ble_eq_true rfl, Nat.le_of_ble_eq_true rfl⟩ hl.1 rfl rfl (Nat.le_of_ble_eq_true rfl) dX11_tellsFilter_111 ⟨Nat.le_of_ble_eq_true rfl, Nat.le_of_ble_eq_true rfl⟩ (fun H locs w => ?_)
  refine zr_lti h (fun v8 h => ?_)
  refine lv_ineg C.1 C.2.1 dX11_tellsFilter_114 ?_
  refine lv_i2l C.1 C.2.1 dX11_tellsFilter_115 rfl ?_
  refine lv_lconst (v := 1) C.1 C.2.1 dX11_tellsFilter_116 (by decide) ?_
  refine lv_lsub C.1 C.2.1 dX11_tellsFilter_117 ?_
  refine zr_ltl h (fun v9 h => ?_)
  refine lv_lstore (lv' := [(6, .long v9), (4, .long v7), (2, .long z0), (0, .ref (zg_q G 40)), (1, .int y1)]) C.1 C.2.1 dX11_tellsFilter_118 hl (by decide) rfl (fun ls hl => ?_)
  refine lv_lload C.1 C.2.1 dX11_tellsFilter_120 (lv_at hl 1 rfl) ?_
  refine lv_lload C.1 C.2.1 dX11_tellsFilter_122 (lv_at hl 0 rfl) ?_
  refine zr_lc_le (tgt := 133) C dX11_tellsFilter_124 dX11_tellsFilter_125 (by decide) h (fun h => ?_) (fun h => ?_)
  · refine lv_lload C.1 C.2.1 dX11_tellsFilter_133 (lv_at hl 1 rfl) ?_
    refine lv_iload_n C.1 C.2.1 dX11_tellsFilter_135 rfl (lv_at hl 4 rfl) ?_
    refine zr_callSi C w (As := [.int y1]) (zm_X11_least l G _ _ _ rfl) zm_c_X11_least zm_l_X11_157 zm_s_X11_least zm_0_X11 zm_d_X11_least ⟨rfl, rfl⟩ ⟨Nat.le_of_ble_eq_true rfl, Nat.le_of_ble_eq_true rfl⟩ hl.1 rfl rfl (Nat.le_of_ble_eq_true rfl) dX11_tellsFilter_136 ⟨Nat.le_of_ble_eq_true rfl, Nat.le_of_ble_eq_true rfl⟩ (fun H locs w => ?_)
    refine zr_lti h (fun v10 h => ?_)
    refine lv_i2l C.1 C.2.1 dX11_tellsFilter_139 rfl ?_
    refine zr_lc_ge (tgt := 152) C dX11_tellsFilter_140 dX11_tellsFilter_141 (by decide) h (fun h => ?_) (fun h => ?_)
    · refine lv_lload C.1 C.2.1 dX11_tellsFilter_152 (lv_at hl 1 rfl) ?_
      exact zq_X11_tellsFilter_154 C rec _ _ _ _ kont ih h _ _ _ w (lv_sub hl [3, 4] rfl)
    · refine lv_iload_n C.1 C.2.1 dX11_tellsFilter_144 rfl (lv_at hl 4 rfl) ?_
      refine zr_callSi C w (As := [.int y1]) (zm_X11_least l G _ _ _ rfl) zm_c_X11_least zm_l_X11_157 zm_s_X11_least zm_0_X11 zm_d_X11_least ⟨rfl, rfl⟩ ⟨Nat.le_of_ble_eq_true rfl, Nat.le_of_ble_eq_true rfl⟩ hl.1 rfl rfl (Nat.le_of_ble_eq_true rfl) dX11_tellsFilter_145 ⟨Nat.le_of_ble_eq_true rfl, Nat.le_of_ble_eq_true rfl⟩ (fun H locs w => ?_)
      refine zr_lti h (fun v14 h => ?_)
      refine lv_i2l C.1 C.2.1 dX11_tellsFilter_148 rfl ?_
      refine lv_goto (tgt := 154) C.1 C.2.1 dX11_tellsFilter_149 (by decide) ?_
      exact zq_X11_tellsFilter_154 C rec _ _ _ _ kont ih h _ _ _ w (lv_sub hl [3, 4] rfl)
  · refine lv_lload C.1 C.2.1 dX11_tellsFilter_128 (lv_at hl 0 rfl) ?_
    refine lv_goto (tgt := 154) C.1 C.2.1 dX11_tellsFilter_130 (by decide) ?_
    exact zq_X11_tellsFilter_154 C rec _ _ _ _ kont ih h _ _ _ w (lv_sub hl [3, 4] rfl)
set_option maxHeartbeats 4000000 in
set_option maxRecDepth 100000 in
theorem zq_X11_tellsFilter_59 {p : Program} {l : Launch} {e : Env} {s : State} {m : MethodId} {args : Array Value} {below : List Frame} {meth : Method} {c : Code} {G : zg_T} {Q : State → Prop} (C : zx_C p s m args meth c G RX11 cX11_tellsFilter 8) (rec : zs_T → Int32 → Option zs_T) (S : zs_T) (y1 : Int32) (z0 : Int64) (oS : zs_T) (kont : ∀ (H : Heap) (locs : List Loc) (ls : Array Slot), zg_W G oS s H locs → lv_has ls 8 [] → W p l e zr_m_X11_tellsFilter s m args below meth c H locs 0 0 Q (F0 m 176 ls [])) (ih : ∀ (S : zs_T) (x1 : Int32), rec S x1 = some oS → ∀ (H : Heap) (locs : List Loc) (ls : Array Slot), zg_W G S s H locs → lv_has ls 8 [(0, .ref (zg_q G 40)), (1, .int x1)] → W p l e zr_m_X11_tellsFilter s m args below meth c H locs 0 0 Q (F0 m 2 ls [])) (h : zj_X11_tellsFilter_59 rec S y1 z0 = some oS) (H : Heap) (locs : List Loc) (ls : Array Slot) (w : zg_W G S s H locs) (hl : lv_has ls 8 [(0, .ref (zg_q G 40)), (1, .int y1)]) : W p l e zr_m_X11_tellsFilter s m args below meth c H locs 0 0 Q (F0 m 59 ls [.long z0]) := by
  unfold zj_X11_tellsFilter_59 at h
  refine lv_lstore_n (lv' := [(2, .long z0), (0, .ref (zg_q G 40)), (1, .int y1)]) C.1 C.2.1 dX11_tellsFilter_59 rfl hl (by decide) rfl (fun ls hl => ?_)
  refine lv_aload_n C.1 C.2.1 dX11_tellsFilter_60 rfl (lv_at hl 1 rfl) ?_
  refine zr_get C w 40 zm_w_X11 (zw_g40 G _) rfl 25 (by decide) zm_f_X11_60 rfl dX11_tellsFilter_61 ?_
  refine lv_iload_n C.1 C.2.1 dX11_tellsFilter_64 rfl (lv_at hl 2 rfl) ?_
  refine lv_iconst (v := 1) C.1 C.2.1 dX11_tellsFilter_65 (by decide) ?_
  refine lv_iadd C.1 C.2.1 dX11_tellsFilter_66 ?_
  refine zr_lald C w 56 (zw_g56 G _) dX11_tellsFilter_67 h (fun h => ?_)
  refine lv_lconst (v := 0) C.1 C.2.1 dX11_tellsFilter_68 (by decide) ?_
  refine zr_lc_ge (tgt := 78) C dX11_tellsFilter_69 dX11_tellsFilter_70 (by decide) h (fun h => ?_) (fun h => ?_)
  · refine lv_lload_n C.1 C.2.1 dX11_tellsFilter_78 rfl (lv_at hl 0 rfl) ?_
    exact zq_X11_tellsFilter_79 C rec _ _ _ _ kont ih h _ _ _ w (lv_sub hl [1, 2] rfl)
  · refine lv_lload_n C.1 C.2.1 dX11_tellsFilter_73 rfl (lv_at hl 0 rfl) ?_
    refine lv_lneg C.1 C.2.1 dX11_tellsFilter_74 ?_
    refine lv_goto (tgt := 79) C.1 C.2.1 dX11_tellsFilter_75 (by decide) ?_
    exact zq_X11_tellsFilter_79 C rec _ _ _ _ kont ih h _ _ _ w (lv_sub hl [1, 2] rfl)
set_option maxHeartbeats 4000000 in
set_option maxRecDepth 100000 in
theorem zk_X11_tellsFilter_2 {p : Program} {l : Launch} {e : Env} {s : State} {m : MethodId} {args : Array Value} {below : List Frame} {meth : Method} {c : Code} {G : zg_T} {Q : State → Prop} (C : zx_C p s m args meth c G RX11 cX11_tellsFilter 8) (oS : zs_T) (kont : ∀ (H : Heap) (locs : List Loc) (ls : Array Slot), zg_W G oS s H locs → lv_has ls 8 [] → W p l e zr_m_X11_tellsFilter s m args below meth c H locs 0 0 Q (F0 m 176 ls [])) : ∀ (n : Nat) (S : zs_T) (x1 : Int32), zl_2 (zb_X11_tellsFilter_2) n S x1 = some oS → ∀ (H : Heap) (locs : List Loc) (ls : Array Slot), zg_W G S s H locs → lv_has ls 8 [(0, .ref (zg_q G 40)), (1, .int x1)] → W p l e zr_m_X11_tellsFilter s m args below meth c H locs 0 0 Q (F0 m 2 ls []) := by
  intro n
  induction n with
  | zero => intro S x1 h; cases h
  | succ n ih =>
    intro S x1 h H locs ls w hl
    replace h : zb_X11_tellsFilter_2 (zl_2 (zb_X11_tellsFilter_2) n) S x1 = some oS := h
    generalize zl_2 (zb_X11_tellsFilter_2) n = rec at ih h
    unfold zb_X11_tellsFilter_2 at h
    refine lv_iload_n C.1 C.2.1 dX11_tellsFilter_2 rfl (lv_at hl 1 rfl) ?_
    refine lv_bipush (v := 8) C.1 C.2.1 dX11_tellsFilter_3 (by decide) ?_
    refine zr_ic_ge (tgt := 176) C dX11_tellsFilter_5 (by decide) h (fun h => ?_) (fun h => ?_)
    · cases h
      exact kont _ _ _ w (lv_sub hl [] rfl)
    · refine lv_aload_n C.1 C.2.1 dX11_tellsFilter_8 rfl (lv_at hl 0 rfl) ?_
      refine zr_get C w 40 zm_w_X11 (zw_g40 G _) rfl 25 (by decide) zm_f_X11_60 rfl dX11_tellsFilter_9 ?_
      refine lv_iload_n C.1 C.2.1 dX11_tellsFilter_12 rfl (lv_at hl 1 rfl) ?_
      refine lv_iconst (v := 1) C.1 C.2.1 dX11_tellsFilter_13 (by decide) ?_
      refine lv_iadd C.1 C.2.1 dX11_tellsFilter_14 ?_
      refine zr_lald C w 56 (zw_g56 G _) dX11_tellsFilter_15 h (fun h => ?_)
      refine zr_callSl C w (As := [.long (S.2 56 (Int32.toNatClampNeg (x1 + (1 : Int32))))]) (zm_X11_size l G _ _ _ rfl) zm_c_X11_size zm_l_X11_124 zm_s_X11_size zm_0_X11 zm_d_X11_size ⟨rfl, rfl⟩ ⟨Nat.le_of_ble_eq_true rfl, Nat.le_of_ble_eq_true rfl⟩ hl.1 rfl rfl (Nat.le_of_ble_eq_true rfl) dX11_tellsFilter_16 ⟨Nat.le_of_ble_eq_true rfl, Nat.le_of_ble_eq_true rfl⟩ (fun H locs w => ?_)
      refine zr_ltl h (fun v1 h => ?_)
      refine lv_lstore_n (lv' := [(2, .long v1), (0, .ref (zg_q G 40)), (1, .int x1)]) C.1 C.2.1 dX11_tellsFilter_19 rfl hl (by decide) rfl (fun ls hl => ?_)
      refine lv_lload_n C.1 C.2.1 dX11_tellsFilter_20 rfl (lv_at hl 0 rfl) ?_
      refine lv_ldc2 (v := 22118) C.1 C.2.1 C.2.2.2.1 (C.2.2.2.2.1 _ zm_k_X11_137) dX11_tellsFilter_21 ?_
      refine zr_lc_ge (tgt := 34) C dX11_tellsFilter_24 dX11_tellsFilter_25 (by decide) h (fun h => ?_) (fun h => ?_)
      · refine lv_lload_n C.1 C.2.1 dX11_tellsFilter_34 rfl (lv_at hl 0 rfl) ?_
        refine lv_ldc2 (v := 31130) C.1 C.2.1 C.2.2.2.1 (C.2.2.2.2.1 _ zm_k_X11_139) dX11_tellsFilter_35 ?_
        refine zr_lc_ge (tgt := 50) C dX11_tellsFilter_38 dX11_tellsFilter_39 (by decide) h (fun h => ?_) (fun h => ?_)
        · refine lv_lload_n C.1 C.2.1 dX11_tellsFilter_50 rfl (lv_at hl 0 rfl) ?_
          refine lv_ldc2 (v := 26112) C.1 C.2.1 C.2.2.2.1 (C.2.2.2.2.1 _ zm_k_X11_143) dX11_tellsFilter_51 ?_
          refine lv_lsub C.1 C.2.1 dX11_tellsFilter_54 ?_
          refine lv_ldc2 (v := 4) C.1 C.2.1 C.2.2.2.1 (C.2.2.2.2.1 _ zm_k_X11_99) dX11_tellsFilter_55 ?_
          refine lv_lmul C.1 C.2.1 dX11_tellsFilter_58 ?_
          exact zq_X11_tellsFilter_59 C rec _ _ _ _ kont ih h _ _ _ w (lv_sub hl [1, 2] rfl)
        · refine lv_lload_n C.1 C.2.1 dX11_tellsFilter_42 rfl (lv_at hl 0 rfl) ?_
          refine lv_ldc2 (v := 11059) C.1 C.2.1 C.2.2.2.1 (C.2.2.2.2.1 _ zm_k_X11_141) dX11_tellsFilter_43 ?_
          refine lv_lsub C.1 C.2.1 dX11_tellsFilter_46 ?_
          refine lv_goto (tgt := 59) C.1 C.2.1 dX11_tellsFilter_47 (by decide) ?_
          exact zq_X11_tellsFilter_59 C rec _ _ _ _ kont ih h _ _ _ w (lv_sub hl [1, 2] rfl)
      · refine lv_lload_n C.1 C.2.1 dX11_tellsFilter_28 rfl (lv_at hl 0 rfl) ?_
        refine lv_iconst (v := 1) C.1 C.2.1 dX11_tellsFilter_29 (by decide) ?_
        refine lv_lshr C.1 C.2.1 dX11_tellsFilter_30 rfl ?_
        refine lv_goto (tgt := 59) C.1 C.2.1 dX11_tellsFilter_31 (by decide) ?_
        exact zq_X11_tellsFilter_59 C rec _ _ _ _ kont ih h _ _ _ w (lv_sub hl [1, 2] rfl)
set_option maxHeartbeats 4000000 in
set_option maxRecDepth 100000 in
theorem zm_X11_tellsFilter (l : Launch) (G : zg_T) (S : zs_T) (S1 : zs_T) (h : zf_X11_tellsFilter S = some S1) : Met l yX11_tellsFilter (Cond.code yX11_tellsFilter cX11_tellsFilter 8 none :: zt_G) zr_m_X11_tellsFilter (va_Pc [.ref (zg_q G 40)] (zg_P G S)) (zg_Q G none S1) 0 0 (zg_A G) := by
  refine zx_met (by decide +kernel) (Nat.le_of_ble_eq_true rfl) (lv := [(0, .ref (zg_q G 40))]) rfl ?_
  intro p e s m below meth c C hr w ls hl
  replace C : zx_C p s m _ meth c G RX11 cX11_tellsFilter 8 := C
  unfold zf_X11_tellsFilter at h
  refine lv_iconst (v := 0) C.1 C.2.1 dX11_tellsFilter_0 (by decide) ?_
  refine lv_istore_n (lv' := [(1, .int (0 : Int32)), (0, .ref (zg_q G 40))]) C.1 C.2.1 dX11_tellsFilter_1 rfl hl (by decide) rfl (fun ls hl => ?_)
  obtain ⟨S15, hc, h⟩ := zc_b1_x h
  refine zk_X11_tellsFilter_2 C S15 (fun H locs ls w hl => ?_) _ _ _ hc _ _ _ w (lv_sub hl [1, 0] rfl)
  clear hc
  exact zr_retv C w hr dX11_tellsFilter_176 (Option.some.inj h)
set_option maxHeartbeats 4000000 in
set_option maxRecDepth 100000 in
theorem zm_X11_tableC (l : Launch) (G : zg_T) (S : zs_T) (a1 : Int32) (r : Int32) (h : zf_X11_tableC a1 = r) : Met l yX11_tableC (Cond.code yX11_tableC cX11_tableC 1 (some .int) :: zt_G) zr_m_X11_tableC (va_Pc [.int a1] (zg_P G S)) (zg_Q G (some (.int r)) S) 0 0 (zg_A G) := by
  refine zx_met (by decide +kernel) (Nat.le_of_ble_eq_true rfl) (lv := [(0, .int a1)]) rfl ?_
  intro p e s m below meth c C hr w ls hl
  replace C : zx_C p s m _ meth c G RX11 cX11_tableC 1 := C
  unfold zf_X11_tableC at h
  refine lv_iload_n C.1 C.2.1 dX11_tableC_0 rfl (lv_at hl 0 rfl) ?_
  refine lv_iconst (v := 4) C.1 C.2.1 dX11_tableC_1 (by decide) ?_
  refine zr_ic_ge (tgt := 11) C dX11_tableC_2 (by decide) h (fun h => ?_) (fun h => ?_)
  · refine lv_iload_n C.1 C.2.1 dX11_tableC_11 rfl (lv_at hl 0 rfl) ?_
    refine lv_iconst (v := 4) C.1 C.2.1 dX11_tableC_12 (by decide) ?_
    refine zr_ic_ne (tgt := 22) C dX11_tableC_13 (by decide) h (fun h => ?_) (fun h => ?_)
    · refine lv_iload_n C.1 C.2.1 dX11_tableC_22 rfl (lv_at hl 0 rfl) ?_
      refine lv_iconst (v := 5) C.1 C.2.1 dX11_tableC_23 (by decide) ?_
      refine zr_ic_ne (tgt := 33) C dX11_tableC_24 (by decide) h (fun h => ?_) (fun h => ?_)
      · refine lv_iload_n C.1 C.2.1 dX11_tableC_33 rfl (lv_at hl 0 rfl) ?_
        refine lv_bipush (v := 6) C.1 C.2.1 dX11_tableC_34 (by decide) ?_
        refine zr_ic_ne (tgt := 45) C dX11_tableC_36 (by decide) h (fun h => ?_) (fun h => ?_)
        · refine lv_sipush (v := 29708) C.1 C.2.1 dX11_tableC_45 (by decide) ?_
          exact zr_reti C w hr dX11_tableC_48 h rfl
        · refine lv_sipush (v := 31454) C.1 C.2.1 dX11_tableC_39 (by decide) ?_
          refine lv_goto (tgt := 48) C.1 C.2.1 dX11_tableC_42 (by decide) ?_
          exact zr_reti C w hr dX11_tableC_48 h rfl
      · refine lv_sipush (v := 17476) C.1 C.2.1 dX11_tableC_27 (by decide) ?_
        refine lv_goto (tgt := 48) C.1 C.2.1 dX11_tableC_30 (by decide) ?_
        exact zr_reti C w hr dX11_tableC_48 h rfl
    · refine lv_sipush (v := 19223) C.1 C.2.1 dX11_tableC_16 (by decide) ?_
      refine lv_goto (tgt := 48) C.1 C.2.1 dX11_tableC_19 (by decide) ?_
      exact zr_reti C w hr dX11_tableC_48 h rfl
  · refine lv_sipush (v := 13107) C.1 C.2.1 dX11_tableC_5 (by decide) ?_
    refine lv_goto (tgt := 48) C.1 C.2.1 dX11_tableC_8 (by decide) ?_
    exact zr_reti C w hr dX11_tableC_48 h rfl
set_option maxHeartbeats 4000000 in
set_option maxRecDepth 100000 in
theorem zk_X11_makesG_2 {p : Program} {l : Launch} {e : Env} {s : State} {m : MethodId} {args : Array Value} {below : List Frame} {meth : Method} {c : Code} {G : zg_T} {Q : State → Prop} (C : zx_C p s m args meth c G RX11 cX11_makesG 4) (oS : zs_T) (kont : ∀ (H : Heap) (locs : List Loc) (ls : Array Slot), zg_W G oS s H locs → lv_has ls 4 [] → W p l e zr_m_X11_makesG s m args below meth c H locs 0 0 Q (F0 m 69 ls [])) : ∀ (n : Nat) (S : zs_T) (x1 : Int32), zl_2 (zb_X11_makesG_2) n S x1 = some oS → ∀ (H : Heap) (locs : List Loc) (ls : Array Slot), zg_W G S s H locs → lv_has ls 4 [(0, .ref (zg_q G 40)), (1, .int x1)] → W p l e zr_m_X11_makesG s m args below meth c H locs 0 0 Q (F0 m 2 ls []) := by
  intro n
  induction n with
  | zero => intro S x1 h; cases h
  | succ n ih =>
    intro S x1 h H locs ls w hl
    replace h : zb_X11_makesG_2 (zl_2 (zb_X11_makesG_2) n) S x1 = some oS := h
    generalize zl_2 (zb_X11_makesG_2) n = rec at ih h
    unfold zb_X11_makesG_2 at h
    refine lv_iload_n C.1 C.2.1 dX11_makesG_2 rfl (lv_at hl 1 rfl) ?_
    refine lv_bipush (v := 8) C.1 C.2.1 dX11_makesG_3 (by decide) ?_
    refine zr_ic_ge (tgt := 69) C dX11_makesG_5 (by decide) h (fun h => ?_) (fun h => ?_)
    · cases h
      exact kont _ _ _ w (lv_sub hl [] rfl)
    · refine lv_aload_n C.1 C.2.1 dX11_makesG_8 rfl (lv_at hl 0 rfl) ?_
      refine zr_get C w 40 zm_w_X11 (zw_g40 G _) rfl 5 (by decide) zm_f_X11_17 rfl dX11_makesG_9 ?_
      refine lv_iload_n C.1 C.2.1 dX11_makesG_12 rfl (lv_at hl 1 rfl) ?_
      refine zr_iald C w 43 (zw_g43 G _) dX11_makesG_13 h (fun h => ?_)
      refine lv_iload_n C.1 C.2.1 dX11_makesG_14 rfl (lv_at hl 1 rfl) ?_
      refine zr_callSi C w (As := [.int x1]) (zm_X11_least l G _ _ _ rfl) zm_c_X11_least zm_l_X11_157 zm_s_X11_least zm_0_X11 zm_d_X11_least ⟨rfl, rfl⟩ ⟨Nat.le_of_ble_eq_true rfl, Nat.le_of_ble_eq_true rfl⟩ hl.1 rfl rfl (Nat.le_of_ble_eq_true rfl) dX11_makesG_15 ⟨Nat.le_of_ble_eq_true rfl, Nat.le_of_ble_eq_true rfl⟩ (fun H locs w => ?_)
      refine zr_lti h (fun v1 h => ?_)
      refine lv_iadd C.1 C.2.1 dX11_makesG_18 ?_
      refine lv_i2l C.1 C.2.1 dX11_makesG_19 rfl ?_
      refine zr_callSl C w (As := [.long (Int32.toInt64 ((S.1 43 (Int32.toNatClampNeg x1)) + v1))]) (zm_X11_cut l G _ _ _ rfl) zm_c_X11_cut zm_l_X11_82 zm_s_X11_cut zm_0_X11 zm_d_X11_cut ⟨rfl, rfl⟩ ⟨Nat.le_of_ble_eq_true rfl, Nat.le_of_ble_eq_true rfl⟩ hl.1 rfl rfl (Nat.le_of_ble_eq_true rfl) dX11_makesG_20 ⟨Nat.le_of_ble_eq_true rfl, Nat.le_of_ble_eq_true rfl⟩ (fun H locs w => ?_)
      refine zr_ltl h (fun v2 h => ?_)
      refine lv_ldc2 (v := 1024) C.1 C.2.1 C.2.2.2.1 (C.2.2.2.2.1 _ zm_k_X11_160) dX11_makesG_23 ?_
      refine lv_lmul C.1 C.2.1 dX11_makesG_26 ?_
      refine lv_ldc2 (v := 2) C.1 C.2.1 C.2.2.2.1 (C.2.2.2.2.1 _ zm_k_X11_135) dX11_makesG_27 ?_
      refine lv_iload_n C.1 C.2.1 dX11_makesG_30 rfl (lv_at hl 1 rfl) ?_
      refine zr_callSi C w (As := [.int x1]) (zm_X11_tableB l G _ _ _ rfl) zm_c_X11_tableB zm_l_X11_152 zm_s_X11_tableB zm_0_X11 zm_d_X11_tableB ⟨rfl, rfl⟩ ⟨Nat.le_of_ble_eq_true rfl, Nat.le_of_ble_eq_true rfl⟩ hl.1 rfl rfl (Nat.le_of_ble_eq_true rfl) dX11_makesG_31 ⟨Nat.le_of_ble_eq_true rfl, Nat.le_of_ble_eq_true rfl⟩ (fun H locs w => ?_)
      refine zr_lti h (fun v3 h => ?_)
      refine lv_i2l C.1 C.2.1 dX11_makesG_34 rfl ?_
      refine lv_lmul C.1 C.2.1 dX11_makesG_35 ?_
      refine lv_lsub C.1 C.2.1 dX11_makesG_36 ?_
      refine zr_callSl C w (As := [.long ((v2 * (1024 : Int64)) - ((2 : Int64) * (Int32.toInt64 v3)))]) (zm_X11_cut l G _ _ _ rfl) zm_c_X11_cut zm_l_X11_82 zm_s_X11_cut zm_0_X11 zm_d_X11_cut ⟨rfl, rfl⟩ ⟨Nat.le_of_ble_eq_true rfl, Nat.le_of_ble_eq_true rfl⟩ hl.1 rfl rfl (Nat.le_of_ble_eq_true rfl) dX11_makesG_37 ⟨Nat.le_of_ble_eq_true rfl, Nat.le_of_ble_eq_true rfl⟩ (fun H locs w => ?_)
      refine zr_ltl h (fun v4 h => ?_)
      refine lv_lstore_n (lv' := [(2, .long v4), (0, .ref (zg_q G 40)), (1, .int x1)]) C.1 C.2.1 dX11_makesG_40 rfl hl (by decide) rfl (fun ls hl => ?_)
      refine lv_aload_n C.1 C.2.1 dX11_makesG_41 rfl (lv_at hl 1 rfl) ?_
      refine zr_get C w 40 zm_w_X11 (zw_g40 G _) rfl 26 (by decide) zm_f_X11_63 rfl dX11_makesG_42 ?_
      refine lv_iload_n C.1 C.2.1 dX11_makesG_45 rfl (lv_at hl 2 rfl) ?_
      refine lv_ldc2 (v := 2) C.1 C.2.1 C.2.2.2.1 (C.2.2.2.2.1 _ zm_k_X11_135) dX11_makesG_46 ?_
      refine lv_iload_n C.1 C.2.1 dX11_makesG_49 rfl (lv_at hl 2 rfl) ?_
      refine zr_callSi C w (As := [.int x1]) (zm_X11_tableC l G _ _ _ rfl) zm_c_X11_tableC zm_l_X11_162 zm_s_X11_tableC zm_0_X11 zm_d_X11_tableC ⟨rfl, rfl⟩ ⟨Nat.le_of_ble_eq_true rfl, Nat.le_of_ble_eq_true rfl⟩ hl.1 rfl rfl (Nat.le_of_ble_eq_true rfl) dX11_makesG_50 ⟨Nat.le_of_ble_eq_true rfl, Nat.le_of_ble_eq_true rfl⟩ (fun H locs w => ?_)
      refine zr_lti h (fun v5 h => ?_)
      refine lv_i2l C.1 C.2.1 dX11_makesG_53 rfl ?_
      refine lv_lload_n C.1 C.2.1 dX11_makesG_54 rfl (lv_at hl 0 rfl) ?_
      refine zr_callSl C w (As := [.long (Int32.toInt64 v5), .long v4]) (zm_X11_rounded l G _ _ _ _ rfl) zm_c_X11_rounded zm_l_X11_112 zm_s_X11_rounded zm_0_X11 zm_d_X11_rounded ⟨rfl, rfl⟩ ⟨Nat.le_of_ble_eq_true rfl, Nat.le_of_ble_eq_true rfl⟩ hl.1 rfl rfl (Nat.le_of_ble_eq_true rfl) dX11_makesG_55 ⟨Nat.le_of_ble_eq_true rfl, Nat.le_of_ble_eq_true rfl⟩ (fun H locs w => ?_)
      refine zr_ltl h (fun v6 h => ?_)
      refine lv_lmul C.1 C.2.1 dX11_makesG_58 ?_
      refine zr_callSl C w (As := [.long ((2 : Int64) * v6)]) (zm_X11_cut l G _ _ _ rfl) zm_c_X11_cut zm_l_X11_82 zm_s_X11_cut zm_0_X11 zm_d_X11_cut ⟨rfl, rfl⟩ ⟨Nat.le_of_ble_eq_true rfl, Nat.le_of_ble_eq_true rfl⟩ hl.1 rfl rfl (Nat.le_of_ble_eq_true rfl) dX11_makesG_59 ⟨Nat.le_of_ble_eq_true rfl, Nat.le_of_ble_eq_true rfl⟩ (fun H locs w => ?_)
      refine zr_ltl h (fun v7 h => ?_)
      refine zr_last C w 57 (zw_g57 G _) (zw_s57 G _) dX11_makesG_62 h (fun S8 H locs w h => ?_)
      obtain ⟨v9, e_, h⟩ := zc_lt_x h
      refine lv_iinc (v := v9) (lv' := [(1, .int v9), (2, .long v4), (0, .ref (zg_q G 40))]) C.1 C.2.1 dX11_makesG_63 hl (k := 2) rfl (by subst e_; rfl) (by decide) rfl (fun ls hl => ?_)
      clear e_
      refine lv_goto (tgt := 2) C.1 C.2.1 dX11_makesG_66 (by decide) ?_
      exact ih _ _ h _ _ _ w (lv_sub hl [2, 0] rfl)
set_option maxHeartbeats 4000000 in
set_option maxRecDepth 100000 in
theorem zm_X11_makesG (l : Launch) (G : zg_T) (S : zs_T) (S1 : zs_T) (h : zf_X11_makesG S = some S1) : Met l yX11_makesG (Cond.code yX11_makesG cX11_makesG 4 none :: zt_G) zr_m_X11_makesG (va_Pc [.ref (zg_q G 40)] (zg_P G S)) (zg_Q G none S1) 0 0 (zg_A G) := by
  refine zx_met (by decide +kernel) (Nat.le_of_ble_eq_true rfl) (lv := [(0, .ref (zg_q G 40))]) rfl ?_
  intro p e s m below meth c C hr w ls hl
  replace C : zx_C p s m _ meth c G RX11 cX11_makesG 4 := C
  unfold zf_X11_makesG at h
  refine lv_iconst (v := 0) C.1 C.2.1 dX11_makesG_0 (by decide) ?_
  refine lv_istore_n (lv' := [(1, .int (0 : Int32)), (0, .ref (zg_q G 40))]) C.1 C.2.1 dX11_makesG_1 rfl hl (by decide) rfl (fun ls hl => ?_)
  obtain ⟨S10, hc, h⟩ := zc_b1_x h
  refine zk_X11_makesG_2 C S10 (fun H locs ls w hl => ?_) _ _ _ hc _ _ _ w (lv_sub hl [1, 0] rfl)
  clear hc
  exact zr_retv C w hr dX11_makesG_69 (Option.some.inj h)
set_option maxHeartbeats 4000000 in
set_option maxRecDepth 100000 in
theorem zq_X11_makesR_178 {p : Program} {l : Launch} {e : Env} {s : State} {m : MethodId} {args : Array Value} {below : List Frame} {meth : Method} {c : Code} {G : zg_T} {Q : State → Prop} (C : zx_C p s m args meth c G RX11 cX11_makesR 10) (rec : zs_T → Int32 → Option zs_T) (S : zs_T) (y1 : Int32) (y2 : Int32) (y3 : Int32) (y6 : Int64) (z0 : Int64) (oS : zs_T) (kont : ∀ (H : Heap) (locs : List Loc) (ls : Array Slot), zg_W G oS s H locs → lv_has ls 10 [] → W p l e zr_m_X11_makesR s m args below meth c H locs 0 0 Q (F0 m 209 ls [])) (ih : ∀ (S : zs_T) (x3 : Int32), rec S x3 = some oS → ∀ (H : Heap) (locs : List Loc) (ls : Array Slot), zg_W G S s H locs → lv_has ls 10 [(0, .ref (zg_q G 40)), (1, .int y1), (2, .int y2), (3, .int x3)] → W p l e zr_m_X11_makesR s m args below meth c H locs 0 0 Q (F0 m 2 ls [])) (h : zj_X11_makesR_178 rec S y1 y2 y3 y6 z0 = some oS) (H : Heap) (locs : List Loc) (ls : Array Slot) (w : zg_W G S s H locs) (hl : lv_has ls 10 [(0, .ref (zg_q G 40)), (1, .int y1), (2, .int y2), (3, .int y3), (6, .long y6)]) : W p l e zr_m_X11_makesR s m args below meth c H locs 0 0 Q (F0 m 178 ls [.long z0]) := by
  unfold zj_X11_makesR_178 at h
  refine lv_lstore (lv' := [(8, .long z0), (0, .ref (zg_q G 40)), (1, .int y1), (2, .int y2), (3, .int y3), (6, .long y6)]) C.1 C.2.1 dX11_makesR_178 hl (by decide) rfl (fun ls hl => ?_)
  refine lv_aload_n C.1 C.2.1 dX11_makesR_180 rfl (lv_at hl 1 rfl) ?_
  refine zr_get C w 40 zm_w_X11 (zw_g40 G _) rfl 25 (by decide) zm_f_X11_60 rfl dX11_makesR_181 ?_
  refine lv_iload_n C.1 C.2.1 dX11_makesR_184 rfl (lv_at hl 4 rfl) ?_
  refine lv_iconst (v := 1) C.1 C.2.1 dX11_makesR_185 (by decide) ?_
  refine lv_iadd C.1 C.2.1 dX11_makesR_186 ?_
  refine lv_lload C.1 C.2.1 dX11_makesR_187 (lv_at hl 5 rfl) ?_
  refine lv_lconst (v := 0) C.1 C.2.1 dX11_makesR_189 (by decide) ?_
  refine zr_lc_ge (tgt := 200) C dX11_makesR_190 dX11_makesR_191 (by decide) h (fun h => ?_) (fun h => ?_)
  · refine lv_lload C.1 C.2.1 dX11_makesR_200 (lv_at hl 0 rfl) ?_
    refine zr_last C w 56 (zw_g56 G _) (zw_s56 G _) dX11_makesR_202 h (fun S5 H locs w h => ?_)
    obtain ⟨v6, e_, h⟩ := zc_lt_x h
    refine lv_iinc (v := v6) (lv' := [(3, .int v6), (8, .long z0), (0, .ref (zg_q G 40)), (1, .int y1), (2, .int y2), (6, .long y6)]) C.1 C.2.1 dX11_makesR_203 hl (k := 4) rfl (by subst e_; rfl) (by decide) rfl (fun ls hl => ?_)
    clear e_
    refine lv_goto (tgt := 2) C.1 C.2.1 dX11_makesR_206 (by decide) ?_
    exact ih _ _ h _ _ _ w (lv_sub hl [2, 3, 4, 0] rfl)
  · refine lv_lload C.1 C.2.1 dX11_makesR_194 (lv_at hl 0 rfl) ?_
    refine lv_lneg C.1 C.2.1 dX11_makesR_196 ?_
    refine lv_goto (tgt := 202) C.1 C.2.1 dX11_makesR_197 (by decide) ?_
    refine zr_last C w 56 (zw_g56 G _) (zw_s56 G _) dX11_makesR_202 h (fun S7 H locs w h => ?_)
    obtain ⟨v8, e_, h⟩ := zc_lt_x h
    refine lv_iinc (v := v8) (lv' := [(3, .int v8), (8, .long z0), (0, .ref (zg_q G 40)), (1, .int y1), (2, .int y2), (6, .long y6)]) C.1 C.2.1 dX11_makesR_203 hl (k := 4) rfl (by subst e_; rfl) (by decide) rfl (fun ls hl => ?_)
    clear e_
    refine lv_goto (tgt := 2) C.1 C.2.1 dX11_makesR_206 (by decide) ?_
    exact ih _ _ h _ _ _ w (lv_sub hl [2, 3, 4, 0] rfl)
set_option maxHeartbeats 4000000 in
set_option maxRecDepth 100000 in
theorem zq_X11_makesR_124 {p : Program} {l : Launch} {e : Env} {s : State} {m : MethodId} {args : Array Value} {below : List Frame} {meth : Method} {c : Code} {G : zg_T} {Q : State → Prop} (C : zx_C p s m args meth c G RX11 cX11_makesR 10) (rec : zs_T → Int32 → Option zs_T) (S : zs_T) (y1 : Int32) (y2 : Int32) (y3 : Int32) (y6 : Int64) (oS : zs_T) (kont : ∀ (H : Heap) (locs : List Loc) (ls : Array Slot), zg_W G oS s H locs → lv_has ls 10 [] → W p l e zr_m_X11_makesR s m args below meth c H locs 0 0 Q (F0 m 209 ls [])) (ih : ∀ (S : zs_T) (x3 : Int32), rec S x3 = some oS → ∀ (H : Heap) (locs : List Loc) (ls : Array Slot), zg_W G S s H locs → lv_has ls 10 [(0, .ref (zg_q G 40)), (1, .int y1), (2, .int y2), (3, .int x3)] → W p l e zr_m_X11_makesR s m args below meth c H locs 0 0 Q (F0 m 2 ls [])) (h : zj_X11_makesR_124 rec S y1 y2 y3 y6 = some oS) (H : Heap) (locs : List Loc) (ls : Array Slot) (w : zg_W G S s H locs) (hl : lv_has ls 10 [(0, .ref (zg_q G 40)), (1, .int y1), (2, .int y2), (3, .int y3), (6, .long y6)]) : W p l e zr_m_X11_makesR s m args below meth c H locs 0 0 Q (F0 m 124 ls []) := by
  unfold zj_X11_makesR_124 at h
  refine lv_lload C.1 C.2.1 dX11_makesR_124 (lv_at hl 4 rfl) ?_
  refine zr_callSl C w (As := [.long y6]) (zm_X11_size l G _ _ _ rfl) zm_c_X11_size zm_l_X11_124 zm_s_X11_size zm_0_X11 zm_d_X11_size ⟨rfl, rfl⟩ ⟨Nat.le_of_ble_eq_true rfl, Nat.le_of_ble_eq_true rfl⟩ hl.1 rfl rfl (Nat.le_of_ble_eq_true rfl) dX11_makesR_126 ⟨Nat.le_of_ble_eq_true rfl, Nat.le_of_ble_eq_true rfl⟩ (fun H locs w => ?_)
  refine zr_ltl h (fun v3 h => ?_)
  refine lv_lstore (lv' := [(8, .long v3), (0, .ref (zg_q G 40)), (1, .int y1), (2, .int y2), (3, .int y3), (6, .long y6)]) C.1 C.2.1 dX11_makesR_129 hl (by decide) rfl (fun ls hl => ?_)
  refine lv_lload C.1 C.2.1 dX11_makesR_131 (lv_at hl 0 rfl) ?_
  refine lv_ldc2 (v := 11059) C.1 C.2.1 C.2.2.2.1 (C.2.2.2.2.1 _ zm_k_X11_141) dX11_makesR_133 ?_
  refine zr_lc_ge (tgt := 149) C dX11_makesR_136 dX11_makesR_137 (by decide) h (fun h => ?_) (fun h => ?_)
  · refine lv_lload C.1 C.2.1 dX11_makesR_149 (lv_at hl 0 rfl) ?_
    refine lv_ldc2 (v := 20070) C.1 C.2.1 C.2.2.2.1 (C.2.2.2.2.1 _ zm_k_X11_165) dX11_makesR_151 ?_
    refine zr_lc_ge (tgt := 167) C dX11_makesR_154 dX11_makesR_155 (by decide) h (fun h => ?_) (fun h => ?_)
    · refine lv_lload C.1 C.2.1 dX11_makesR_167 (lv_at hl 0 rfl) ?_
      refine lv_iconst (v := 2) C.1 C.2.1 dX11_makesR_169 (by decide) ?_
      refine lv_lshr C.1 C.2.1 dX11_makesR_170 rfl ?_
      refine lv_ldc2 (v := 26112) C.1 C.2.1 C.2.2.2.1 (C.2.2.2.2.1 _ zm_k_X11_143) dX11_makesR_171 ?_
      refine lv_ladd C.1 C.2.1 dX11_makesR_174 ?_
      refine zr_callSl C w (As := [.long ((v3 >>> (Int32.toInt64 (2 : Int32) &&& 63)) + (26112 : Int64))]) (zm_X11_cut l G _ _ _ rfl) zm_c_X11_cut zm_l_X11_82 zm_s_X11_cut zm_0_X11 zm_d_X11_cut ⟨rfl, rfl⟩ ⟨Nat.le_of_ble_eq_true rfl, Nat.le_of_ble_eq_true rfl⟩ hl.1 rfl rfl (Nat.le_of_ble_eq_true rfl) dX11_makesR_175 ⟨Nat.le_of_ble_eq_true rfl, Nat.le_of_ble_eq_true rfl⟩ (fun H locs w => ?_)
      refine zr_ltl h (fun v4 h => ?_)
      exact zq_X11_makesR_178 C rec _ _ _ _ _ _ _ kont ih h _ _ _ w (lv_sub hl [1, 2, 3, 4, 5] rfl)
    · refine lv_lload C.1 C.2.1 dX11_makesR_158 (lv_at hl 0 rfl) ?_
      refine lv_ldc2 (v := 11059) C.1 C.2.1 C.2.2.2.1 (C.2.2.2.2.1 _ zm_k_X11_141) dX11_makesR_160 ?_
      refine lv_ladd C.1 C.2.1 dX11_makesR_163 ?_
      refine lv_goto (tgt := 178) C.1 C.2.1 dX11_makesR_164 (by decide) ?_
      exact zq_X11_makesR_178 C rec _ _ _ _ _ _ _ kont ih h _ _ _ w (lv_sub hl [1, 2, 3, 4, 5] rfl)
  · refine lv_ldc2 (v := 2) C.1 C.2.1 C.2.2.2.1 (C.2.2.2.2.1 _ zm_k_X11_135) dX11_makesR_140 ?_
    refine lv_lload C.1 C.2.1 dX11_makesR_143 (lv_at hl 0 rfl) ?_
    refine lv_lmul C.1 C.2.1 dX11_makesR_145 ?_
    refine lv_goto (tgt := 178) C.1 C.2.1 dX11_makesR_146 (by decide) ?_
    exact zq_X11_makesR_178 C rec _ _ _ _ _ _ _ kont ih h _ _ _ w (lv_sub hl [1, 2, 3, 4, 5] rfl)
set_option maxHeartbeats 4000000 in
set_option maxRecDepth 100000 in
theorem zk_X11_makesR_2 {p : Program} {l : Launch} {e : Env} {s : State} {m : MethodId} {args : Array Value} {below : List Frame} {meth : Method} {c : Code} {G : zg_T} {Q : State → Prop} (C : zx_C p s m args meth c G RX11 cX11_makesR 10) (f1 : Int32) (f2 : Int32) (oS : zs_T) (kont : ∀ (H : Heap) (locs : List Loc) (ls : Array Slot), zg_W G oS s H locs → lv_has ls 10 [] → W p l e zr_m_X11_makesR s m args below meth c H locs 0 0 Q (F0 m 209 ls [])) : ∀ (n : Nat) (S : zs_T) (x3 : Int32), zl_2 (zb_X11_makesR_2 f1 f2) n S x3 = some oS → ∀ (H : Heap) (locs : List Loc) (ls : Array Slot), zg_W G S s H locs → lv_has ls 10 [(0, .ref (zg_q G 40)), (1, .int f1), (2, .int f2), (3, .int x3)] → W p l e zr_m_X11_makesR s m args below meth c H locs 0 0 Q (F0 m 2 ls []) := by
  intro n
  induction n with
  | zero => intro S x3 h; cases h
  | succ n ih =>
    intro S x3 h H locs ls w hl
    replace h : zb_X11_makesR_2 f1 f2 (zl_2 (zb_X11_makesR_2 f1 f2) n) S x3 = some oS := h
    generalize zl_2 (zb_X11_makesR_2 f1 f2) n = rec at ih h
    unfold zb_X11_makesR_2 at h
    refine lv_iload_n C.1 C.2.1 dX11_makesR_2 rfl (lv_at hl 3 rfl) ?_
    refine lv_bipush (v := 8) C.1 C.2.1 dX11_makesR_3 (by decide) ?_
    refine zr_ic_ge (tgt := 209) C dX11_makesR_5 (by decide) h (fun h => ?_) (fun h => ?_)
    · cases h
      exact kont _ _ _ w (lv_sub hl [] rfl)
    · refine lv_aload_n C.1 C.2.1 dX11_makesR_8 rfl (lv_at hl 0 rfl) ?_
      refine zr_get C w 40 zm_w_X11 (zw_g40 G _) rfl 12 (by decide) zm_f_X11_23 rfl dX11_makesR_9 ?_
      refine lv_iload_n C.1 C.2.1 dX11_makesR_12 rfl (lv_at hl 2 rfl) ?_
      refine lv_iload_n C.1 C.2.1 dX11_makesR_13 rfl (lv_at hl 3 rfl) ?_
      refine lv_iadd C.1 C.2.1 dX11_makesR_14 ?_
      refine zr_lald C w 45 (zw_g45 G _) dX11_makesR_15 h (fun h => ?_)
      refine zr_ltl h (fun v1 h => ?_)
      refine lv_lstore (lv' := [(4, .long v1), (0, .ref (zg_q G 40)), (1, .int f1), (2, .int f2), (3, .int x3)]) C.1 C.2.1 dX11_makesR_16 hl (by decide) rfl (fun ls hl => ?_)
      refine lv_aload_n C.1 C.2.1 dX11_makesR_18 rfl (lv_at hl 1 rfl) ?_
      refine zr_get C w 40 zm_w_X11 (zw_g40 G _) rfl 26 (by decide) zm_f_X11_63 rfl dX11_makesR_19 ?_
      refine lv_iload_n C.1 C.2.1 dX11_makesR_22 rfl (lv_at hl 4 rfl) ?_
      refine zr_lald C w 57 (zw_g57 G _) dX11_makesR_23 h (fun h => ?_)
      refine zr_ltl h (fun v2 h => ?_)
      refine lv_lstore (lv' := [(6, .long v2), (4, .long v1), (0, .ref (zg_q G 40)), (1, .int f1), (2, .int f2), (3, .int x3)]) C.1 C.2.1 dX11_makesR_24 hl (by decide) rfl (fun ls hl => ?_)
      refine lv_iload_n C.1 C.2.1 dX11_makesR_26 rfl (lv_at hl 3 rfl) ?_
      refine lv_bipush (v := 13) C.1 C.2.1 dX11_makesR_27 (by decide) ?_
      refine zr_ic_ge (tgt := 61) C dX11_makesR_29 (by decide) h (fun h => ?_) (fun h => ?_)
      · refine lv_iload_n C.1 C.2.1 dX11_makesR_61 rfl (lv_at hl 3 rfl) ?_
        refine lv_bipush (v := 27) C.1 C.2.1 dX11_makesR_62 (by decide) ?_
        refine zr_ic_ge (tgt := 88) C dX11_makesR_64 (by decide) h (fun h => ?_) (fun h => ?_)
        · refine lv_iload_n C.1 C.2.1 dX11_makesR_88 rfl (lv_at hl 3 rfl) ?_
          refine lv_bipush (v := 40) C.1 C.2.1 dX11_makesR_89 (by decide) ?_
          refine zr_ic_ge (tgt := 124) C dX11_makesR_91 (by decide) h (fun h => ?_) (fun h => ?_)
          · exact zq_X11_makesR_124 C rec _ _ _ _ _ _ kont ih h _ _ _ w (lv_sub hl [2, 3, 4, 5, 0] rfl)
          · refine lv_lload C.1 C.2.1 dX11_makesR_94 (lv_at hl 1 rfl) ?_
            refine lv_iconst (v := 2) C.1 C.2.1 dX11_makesR_96 (by decide) ?_
            refine lv_lshr C.1 C.2.1 dX11_makesR_97 rfl ?_
            refine lv_aload_n C.1 C.2.1 dX11_makesR_98 rfl (lv_at hl 2 rfl) ?_
            refine zr_get C w 40 zm_w_X11 (zw_g40 G _) rfl 26 (by decide) zm_f_X11_63 rfl dX11_makesR_99 ?_
            refine lv_iload_n C.1 C.2.1 dX11_makesR_102 rfl (lv_at hl 5 rfl) ?_
            refine zr_lald C w 57 (zw_g57 G _) dX11_makesR_103 h (fun h => ?_)
            refine lv_iconst (v := 2) C.1 C.2.1 dX11_makesR_104 (by decide) ?_
            refine lv_lshr C.1 C.2.1 dX11_makesR_105 rfl ?_
            refine lv_ladd C.1 C.2.1 dX11_makesR_106 ?_
            refine zr_callSl C w (As := [.long ((v1 >>> (Int32.toInt64 (2 : Int32) &&& 63)) + ((S.2 57 (Int32.toNatClampNeg x3)) >>> (Int32.toInt64 (2 : Int32) &&& 63)))]) (zm_X11_cut l G _ _ _ rfl) zm_c_X11_cut zm_l_X11_82 zm_s_X11_cut zm_0_X11 zm_d_X11_cut ⟨rfl, rfl⟩ ⟨Nat.le_of_ble_eq_true rfl, Nat.le_of_ble_eq_true rfl⟩ hl.1 rfl rfl (Nat.le_of_ble_eq_true rfl) dX11_makesR_107 ⟨Nat.le_of_ble_eq_true rfl, Nat.le_of_ble_eq_true rfl⟩ (fun H locs w => ?_)
            refine zr_ltl h (fun v9 h => ?_)
            refine lv_aload_n C.1 C.2.1 dX11_makesR_110 rfl (lv_at hl 2 rfl) ?_
            refine zr_get C w 40 zm_w_X11 (zw_g40 G _) rfl 26 (by decide) zm_f_X11_63 rfl dX11_makesR_111 ?_
            refine lv_iload_n C.1 C.2.1 dX11_makesR_114 rfl (lv_at hl 5 rfl) ?_
            refine zr_lald C w 57 (zw_g57 G _) dX11_makesR_115 h (fun h => ?_)
            refine lv_iconst (v := 1) C.1 C.2.1 dX11_makesR_116 (by decide) ?_
            refine lv_lshr C.1 C.2.1 dX11_makesR_117 rfl ?_
            refine lv_ladd C.1 C.2.1 dX11_makesR_118 ?_
            refine zr_callSl C w (As := [.long (v9 + ((S.2 57 (Int32.toNatClampNeg x3)) >>> (Int32.toInt64 (1 : Int32) &&& 63)))]) (zm_X11_cut l G _ _ _ rfl) zm_c_X11_cut zm_l_X11_82 zm_s_X11_cut zm_0_X11 zm_d_X11_cut ⟨rfl, rfl⟩ ⟨Nat.le_of_ble_eq_true rfl, Nat.le_of_ble_eq_true rfl⟩ hl.1 rfl rfl (Nat.le_of_ble_eq_true rfl) dX11_makesR_119 ⟨Nat.le_of_ble_eq_true rfl, Nat.le_of_ble_eq_true rfl⟩ (fun H locs w => ?_)
            refine zr_ltl h (fun v10 h => ?_)
            refine lv_lstore (lv' := [(6, .long v10), (4, .long v1), (0, .ref (zg_q G 40)), (1, .int f1), (2, .int f2), (3, .int x3)]) C.1 C.2.1 dX11_makesR_122 hl (by decide) rfl (fun ls hl => ?_)
            exact zq_X11_makesR_124 C rec _ _ _ _ _ _ kont ih h _ _ _ w (lv_sub hl [2, 3, 4, 5, 0] rfl)
        · refine lv_lload C.1 C.2.1 dX11_makesR_67 (lv_at hl 1 rfl) ?_
          refine lv_iconst (v := 1) C.1 C.2.1 dX11_makesR_69 (by decide) ?_
          refine lv_lshr C.1 C.2.1 dX11_makesR_70 rfl ?_
          refine lv_aload_n C.1 C.2.1 dX11_makesR_71 rfl (lv_at hl 2 rfl) ?_
          refine zr_get C w 40 zm_w_X11 (zw_g40 G _) rfl 26 (by decide) zm_f_X11_63 rfl dX11_makesR_72 ?_
          refine lv_iload_n C.1 C.2.1 dX11_makesR_75 rfl (lv_at hl 5 rfl) ?_
          refine zr_lald C w 57 (zw_g57 G _) dX11_makesR_76 h (fun h => ?_)
          refine lv_iconst (v := 1) C.1 C.2.1 dX11_makesR_77 (by decide) ?_
          refine lv_lshr C.1 C.2.1 dX11_makesR_78 rfl ?_
          refine lv_ladd C.1 C.2.1 dX11_makesR_79 ?_
          refine zr_callSl C w (As := [.long ((v1 >>> (Int32.toInt64 (1 : Int32) &&& 63)) + ((S.2 57 (Int32.toNatClampNeg x3)) >>> (Int32.toInt64 (1 : Int32) &&& 63)))]) (zm_X11_cut l G _ _ _ rfl) zm_c_X11_cut zm_l_X11_82 zm_s_X11_cut zm_0_X11 zm_d_X11_cut ⟨rfl, rfl⟩ ⟨Nat.le_of_ble_eq_true rfl, Nat.le_of_ble_eq_true rfl⟩ hl.1 rfl rfl (Nat.le_of_ble_eq_true rfl) dX11_makesR_80 ⟨Nat.le_of_ble_eq_true rfl, Nat.le_of_ble_eq_true rfl⟩ (fun H locs w => ?_)
          refine zr_ltl h (fun v11 h => ?_)
          refine lv_lstore (lv' := [(6, .long v11), (4, .long v1), (0, .ref (zg_q G 40)), (1, .int f1), (2, .int f2), (3, .int x3)]) C.1 C.2.1 dX11_makesR_83 hl (by decide) rfl (fun ls hl => ?_)
          refine lv_goto (tgt := 124) C.1 C.2.1 dX11_makesR_85 (by decide) ?_
          exact zq_X11_makesR_124 C rec _ _ _ _ _ _ kont ih h _ _ _ w (lv_sub hl [2, 3, 4, 5, 0] rfl)
      · refine lv_lload C.1 C.2.1 dX11_makesR_32 (lv_at hl 1 rfl) ?_
        refine lv_iconst (v := 2) C.1 C.2.1 dX11_makesR_34 (by decide) ?_
        refine lv_lshr C.1 C.2.1 dX11_makesR_35 rfl ?_
        refine lv_aload_n C.1 C.2.1 dX11_makesR_36 rfl (lv_at hl 2 rfl) ?_
        refine zr_get C w 40 zm_w_X11 (zw_g40 G _) rfl 26 (by decide) zm_f_X11_63 rfl dX11_makesR_37 ?_
        refine lv_iload_n C.1 C.2.1 dX11_makesR_40 rfl (lv_at hl 5 rfl) ?_
        refine zr_lald C w 57 (zw_g57 G _) dX11_makesR_41 h (fun h => ?_)
        refine lv_iconst (v := 2) C.1 C.2.1 dX11_makesR_42 (by decide) ?_
        refine lv_lshr C.1 C.2.1 dX11_makesR_43 rfl ?_
        refine lv_ladd C.1 C.2.1 dX11_makesR_44 ?_
        refine zr_callSl C w (As := [.long ((v1 >>> (Int32.toInt64 (2 : Int32) &&& 63)) + ((S.2 57 (Int32.toNatClampNeg x3)) >>> (Int32.toInt64 (2 : Int32) &&& 63)))]) (zm_X11_cut l G _ _ _ rfl) zm_c_X11_cut zm_l_X11_82 zm_s_X11_cut zm_0_X11 zm_d_X11_cut ⟨rfl, rfl⟩ ⟨Nat.le_of_ble_eq_true rfl, Nat.le_of_ble_eq_true rfl⟩ hl.1 rfl rfl (Nat.le_of_ble_eq_true rfl) dX11_makesR_45 ⟨Nat.le_of_ble_eq_true rfl, Nat.le_of_ble_eq_true rfl⟩ (fun H locs w => ?_)
        refine zr_ltl h (fun v12 h => ?_)
        refine lv_lload C.1 C.2.1 dX11_makesR_48 (lv_at hl 1 rfl) ?_
        refine lv_iconst (v := 1) C.1 C.2.1 dX11_makesR_50 (by decide) ?_
        refine lv_lshr C.1 C.2.1 dX11_makesR_51 rfl ?_
        refine lv_ladd C.1 C.2.1 dX11_makesR_52 ?_
        refine zr_callSl C w (As := [.long (v12 + (v1 >>> (Int32.toInt64 (1 : Int32) &&& 63)))]) (zm_X11_cut l G _ _ _ rfl) zm_c_X11_cut zm_l_X11_82 zm_s_X11_cut zm_0_X11 zm_d_X11_cut ⟨rfl, rfl⟩ ⟨Nat.le_of_ble_eq_true rfl, Nat.le_of_ble_eq_true rfl⟩ hl.1 rfl rfl (Nat.le_of_ble_eq_true rfl) dX11_makesR_53 ⟨Nat.le_of_ble_eq_true rfl, Nat.le_of_ble_eq_true rfl⟩ (fun H locs w => ?_)
        refine zr_ltl h (fun v13 h => ?_)
        refine lv_lstore (lv' := [(6, .long v13), (4, .long v1), (0, .ref (zg_q G 40)), (1, .int f1), (2, .int f2), (3, .int x3)]) C.1 C.2.1 dX11_makesR_56 hl (by decide) rfl (fun ls hl => ?_)
        refine lv_goto (tgt := 124) C.1 C.2.1 dX11_makesR_58 (by decide) ?_
        exact zq_X11_makesR_124 C rec _ _ _ _ _ _ kont ih h _ _ _ w (lv_sub hl [2, 3, 4, 5, 0] rfl)
set_option maxHeartbeats 4000000 in
set_option maxRecDepth 100000 in
theorem zm_X11_makesR (l : Launch) (G : zg_T) (S : zs_T) (a1 : Int32) (a2 : Int32) (S1 : zs_T) (h : zf_X11_makesR S a1 a2 = some S1) : Met l yX11_makesR (Cond.code yX11_makesR cX11_makesR 10 none :: zt_G) zr_m_X11_makesR (va_Pc [.ref (zg_q G 40), .int a1, .int a2] (zg_P G S)) (zg_Q G none S1) 0 0 (zg_A G) := by
  refine zx_met (by decide +kernel) (Nat.le_of_ble_eq_true rfl) (lv := [(0, .ref (zg_q G 40)), (1, .int a1), (2, .int a2)]) rfl ?_
  intro p e s m below meth c C hr w ls hl
  replace C : zx_C p s m _ meth c G RX11 cX11_makesR 10 := C
  unfold zf_X11_makesR at h
  refine lv_iconst (v := 0) C.1 C.2.1 dX11_makesR_0 (by decide) ?_
  refine lv_istore_n (lv' := [(3, .int (0 : Int32)), (0, .ref (zg_q G 40)), (1, .int a1), (2, .int a2)]) C.1 C.2.1 dX11_makesR_1 rfl hl (by decide) rfl (fun ls hl => ?_)
  obtain ⟨S14, hc, h⟩ := zc_b1_x h
  refine zk_X11_makesR_2 C a1 a2 S14 (fun H locs ls w hl => ?_) _ _ _ hc _ _ _ w (lv_sub hl [1, 2, 3, 0] rfl)
  clear hc
  exact zr_retv C w hr dX11_makesR_209 (Option.some.inj h)
set_option maxHeartbeats 4000000 in
set_option maxRecDepth 100000 in
theorem zk_X11_leaves_55 {p : Program} {l : Launch} {e : Env} {s : State} {m : MethodId} {args : Array Value} {below : List Frame} {meth : Method} {c : Code} {G : zg_T} {Q : State → Prop} (C : zx_C p s m args meth c G RX11 cX11_leaves 9) (f1 : Int32) (oS : zs_T) (o2 : Int64) (kont : ∀ (H : Heap) (locs : List Loc) (ls : Array Slot), zg_W G oS s H locs → lv_has ls 9 [(0, .ref (zg_q G 40)), (1, .int f1), (2, .long o2)] → W p l e zr_m_X11_leaves s m args below meth c H locs 0 0 Q (F0 m 123 ls [])) : ∀ (n : Nat) (S : zs_T) (x2 : Int64) (x4 : Int64) (x6 : Int32), zl_4 (zb_X11_leaves_55) n S x2 x4 x6 = some (oS, o2) → ∀ (H : Heap) (locs : List Loc) (ls : Array Slot), zg_W G S s H locs → lv_has ls 9 [(0, .ref (zg_q G 40)), (1, .int f1), (2, .long x2), (4, .long x4), (6, .int x6)] → W p l e zr_m_X11_leaves s m args below meth c H locs 0 0 Q (F0 m 55 ls []) := by
  intro n
  induction n with
  | zero => intro S x2 x4 x6 h; cases h
  | succ n ih =>
    intro S x2 x4 x6 h H locs ls w hl
    replace h : zb_X11_leaves_55 (zl_4 (zb_X11_leaves_55) n) S x2 x4 x6 = some (oS, o2) := h
    generalize zl_4 (zb_X11_leaves_55) n = rec at ih h
    unfold zb_X11_leaves_55 at h
    refine lv_iload C.1 C.2.1 dX11_leaves_55 (lv_at hl 4 rfl) ?_
    refine lv_bipush (v := 9) C.1 C.2.1 dX11_leaves_57 (by decide) ?_
    refine zr_ic_ge (tgt := 123) C dX11_leaves_59 (by decide) h (fun h => ?_) (fun h => ?_)
    · cases h
      exact kont _ _ _ w (lv_sub hl [0, 1, 2] rfl)
    · refine lv_aload_n C.1 C.2.1 dX11_leaves_62 rfl (lv_at hl 0 rfl) ?_
      refine zr_get C w 40 zm_w_X11 (zw_g40 G _) rfl 13 (by decide) zm_f_X11_26 rfl dX11_leaves_63 ?_
      refine lv_iload C.1 C.2.1 dX11_leaves_66 (lv_at hl 4 rfl) ?_
      refine zr_lald C w 46 (zw_g46 G _) dX11_leaves_68 h (fun h => ?_)
      refine zr_ltl h (fun v4 h => ?_)
      refine lv_lstore (lv' := [(7, .long v4), (0, .ref (zg_q G 40)), (1, .int f1), (2, .long x2), (4, .long x4), (6, .int x6)]) C.1 C.2.1 dX11_leaves_69 hl (by decide) rfl (fun ls hl => ?_)
      refine lv_aload_n C.1 C.2.1 dX11_leaves_71 rfl (lv_at hl 1 rfl) ?_
      refine zr_get C w 40 zm_w_X11 (zw_g40 G _) rfl 13 (by decide) zm_f_X11_26 rfl dX11_leaves_72 ?_
      refine lv_iload C.1 C.2.1 dX11_leaves_75 (lv_at hl 5 rfl) ?_
      refine lv_lload C.1 C.2.1 dX11_leaves_77 (lv_at hl 4 rfl) ?_
      refine zr_last C w 46 (zw_g46 G _) (zw_s46 G _) dX11_leaves_79 h (fun S5 H locs w h => ?_)
      refine lv_lload C.1 C.2.1 dX11_leaves_80 (lv_at hl 0 rfl) ?_
      refine lv_aload_n C.1 C.2.1 dX11_leaves_82 rfl (lv_at hl 1 rfl) ?_
      refine zr_get C w 40 zm_w_X11 (zw_g40 G _) rfl 25 (by decide) zm_f_X11_60 rfl dX11_leaves_83 ?_
      refine lv_iload C.1 C.2.1 dX11_leaves_86 (lv_at hl 5 rfl) ?_
      refine zr_lald C w 56 (zw_g56 G _) dX11_leaves_88 h (fun h => ?_)
      refine lv_lload_n C.1 C.2.1 dX11_leaves_89 rfl (lv_at hl 3 rfl) ?_
      refine zr_callSl C w (As := [.long (S5.2 56 (Int32.toNatClampNeg x6)), .long x2]) (zm_X11_rounded l G _ _ _ _ rfl) zm_c_X11_rounded zm_l_X11_112 zm_s_X11_rounded zm_0_X11 zm_d_X11_rounded ⟨rfl, rfl⟩ ⟨Nat.le_of_ble_eq_true rfl, Nat.le_of_ble_eq_true rfl⟩ hl.1 rfl rfl (Nat.le_of_ble_eq_true rfl) dX11_leaves_90 ⟨Nat.le_of_ble_eq_true rfl, Nat.le_of_ble_eq_true rfl⟩ (fun H locs w => ?_)
      refine zr_ltl h (fun v6 h => ?_)
      refine lv_ladd C.1 C.2.1 dX11_leaves_93 ?_
      refine zr_callSl C w (As := [.long (v4 + v6)]) (zm_X11_cut l G _ _ _ rfl) zm_c_X11_cut zm_l_X11_82 zm_s_X11_cut zm_0_X11 zm_d_X11_cut ⟨rfl, rfl⟩ ⟨Nat.le_of_ble_eq_true rfl, Nat.le_of_ble_eq_true rfl⟩ hl.1 rfl rfl (Nat.le_of_ble_eq_true rfl) dX11_leaves_94 ⟨Nat.le_of_ble_eq_true rfl, Nat.le_of_ble_eq_true rfl⟩ (fun H locs w => ?_)
      refine zr_ltl h (fun v7 h => ?_)
      refine lv_lstore (lv' := [(4, .long v7), (7, .long v4), (0, .ref (zg_q G 40)), (1, .int f1), (2, .long x2), (6, .int x6)]) C.1 C.2.1 dX11_leaves_97 hl (by decide) rfl (fun ls hl => ?_)
      refine lv_lload_n C.1 C.2.1 dX11_leaves_99 rfl (lv_at hl 4 rfl) ?_
      refine lv_aload_n C.1 C.2.1 dX11_leaves_100 rfl (lv_at hl 2 rfl) ?_
      refine zr_get C w 40 zm_w_X11 (zw_g40 G _) rfl 25 (by decide) zm_f_X11_60 rfl dX11_leaves_101 ?_
      refine lv_iload C.1 C.2.1 dX11_leaves_104 (lv_at hl 5 rfl) ?_
      refine zr_lald C w 56 (zw_g56 G _) dX11_leaves_106 h (fun h => ?_)
      refine lv_lload C.1 C.2.1 dX11_leaves_107 (lv_at hl 1 rfl) ?_
      refine zr_callSl C w (As := [.long (S5.2 56 (Int32.toNatClampNeg x6)), .long v4]) (zm_X11_rounded l G _ _ _ _ rfl) zm_c_X11_rounded zm_l_X11_112 zm_s_X11_rounded zm_0_X11 zm_d_X11_rounded ⟨rfl, rfl⟩ ⟨Nat.le_of_ble_eq_true rfl, Nat.le_of_ble_eq_true rfl⟩ hl.1 rfl rfl (Nat.le_of_ble_eq_true rfl) dX11_leaves_109 ⟨Nat.le_of_ble_eq_true rfl, Nat.le_of_ble_eq_true rfl⟩ (fun H locs w => ?_)
      refine zr_ltl h (fun v8 h => ?_)
      refine lv_ladd C.1 C.2.1 dX11_leaves_112 ?_
      refine zr_callSl C w (As := [.long (x2 + v8)]) (zm_X11_cut l G _ _ _ rfl) zm_c_X11_cut zm_l_X11_82 zm_s_X11_cut zm_0_X11 zm_d_X11_cut ⟨rfl, rfl⟩ ⟨Nat.le_of_ble_eq_true rfl, Nat.le_of_ble_eq_true rfl⟩ hl.1 rfl rfl (Nat.le_of_ble_eq_true rfl) dX11_leaves_113 ⟨Nat.le_of_ble_eq_true rfl, Nat.le_of_ble_eq_true rfl⟩ (fun H locs w => ?_)
      refine zr_ltl h (fun v9 h => ?_)
      refine lv_lstore_n (lv' := [(2, .long v9), (4, .long v7), (7, .long v4), (0, .ref (zg_q G 40)), (1, .int f1), (6, .int x6)]) C.1 C.2.1 dX11_leaves_116 rfl hl (by decide) rfl (fun ls hl => ?_)
      obtain ⟨v10, e_, h⟩ := zc_lt_x h
      refine lv_iinc (v := v10) (lv' := [(6, .int v10), (2, .long v9), (4, .long v7), (7, .long v4), (0, .ref (zg_q G 40)), (1, .int f1)]) C.1 C.2.1 dX11_leaves_117 hl (k := 5) rfl (by subst e_; rfl) (by decide) rfl (fun ls hl => ?_)
      clear e_
      refine lv_goto (tgt := 55) C.1 C.2.1 dX11_leaves_120 (by decide) ?_
      exact ih _ _ _ _ h _ _ _ w (lv_sub hl [4, 5, 1, 2, 0] rfl)
set_option maxHeartbeats 4000000 in
set_option maxRecDepth 100000 in
theorem zq_X11_leaves_37 {p : Program} {l : Launch} {e : Env} {s : State} {m : MethodId} {args : Array Value} {below : List Frame} {meth : Method} {c : Code} {G : zg_T} {Q : State → Prop} (C : zx_C p s m args meth c G RX11 cX11_leaves 9) (rec : zs_T → Int32 → Option zs_T) (S : zs_T) (y1 : Int32) (oS : zs_T) (kont : ∀ (H : Heap) (locs : List Loc) (ls : Array Slot), zg_W G oS s H locs → lv_has ls 9 [] → W p l e zr_m_X11_leaves s m args below meth c H locs 0 0 Q (F0 m 136 ls [])) (ih : ∀ (S : zs_T) (x1 : Int32), rec S x1 = some oS → ∀ (H : Heap) (locs : List Loc) (ls : Array Slot), zg_W G S s H locs → lv_has ls 9 [(0, .ref (zg_q G 40)), (1, .int x1)] → W p l e zr_m_X11_leaves s m args below meth c H locs 0 0 Q (F0 m 2 ls [])) (h : zj_X11_leaves_37 rec S y1 = some oS) (H : Heap) (locs : List Loc) (ls : Array Slot) (w : zg_W G S s H locs) (hl : lv_has ls 9 [(0, .ref (zg_q G 40)), (1, .int y1)]) : W p l e zr_m_X11_leaves s m args below meth c H locs 0 0 Q (F0 m 37 ls []) := by
  unfold zj_X11_leaves_37 at h
  refine lv_aload_n C.1 C.2.1 dX11_leaves_37 rfl (lv_at hl 0 rfl) ?_
  refine zr_get C w 40 zm_w_X11 (zw_g40 G _) rfl 18 (by decide) zm_f_X11_39 rfl dX11_leaves_38 ?_
  refine lv_iload_n C.1 C.2.1 dX11_leaves_41 rfl (lv_at hl 1 rfl) ?_
  refine zr_lald C w 49 (zw_g49 G _) dX11_leaves_42 h (fun h => ?_)
  refine zr_ltl h (fun v2 h => ?_)
  refine lv_lstore_n (lv' := [(2, .long v2), (0, .ref (zg_q G 40)), (1, .int y1)]) C.1 C.2.1 dX11_leaves_43 rfl hl (by decide) rfl (fun ls hl => ?_)
  refine lv_aload_n C.1 C.2.1 dX11_leaves_44 rfl (lv_at hl 1 rfl) ?_
  refine zr_get C w 40 zm_w_X11 (zw_g40 G _) rfl 18 (by decide) zm_f_X11_39 rfl dX11_leaves_45 ?_
  refine lv_iload_n C.1 C.2.1 dX11_leaves_48 rfl (lv_at hl 2 rfl) ?_
  refine zr_lald C w 49 (zw_g49 G _) dX11_leaves_49 h (fun h => ?_)
  refine zr_ltl h (fun v3 h => ?_)
  refine lv_lstore (lv' := [(4, .long v3), (2, .long v2), (0, .ref (zg_q G 40)), (1, .int y1)]) C.1 C.2.1 dX11_leaves_50 hl (by decide) rfl (fun ls hl => ?_)
  refine lv_iconst (v := 1) C.1 C.2.1 dX11_leaves_52 (by decide) ?_
  refine lv_istore (lv' := [(6, .int (1 : Int32)), (4, .long v3), (2, .long v2), (0, .ref (zg_q G 40)), (1, .int y1)]) C.1 C.2.1 dX11_leaves_53 hl (by decide) rfl (fun ls hl => ?_)
  obtain ⟨S11, v12, hc, h⟩ := zc_b2_x h
  refine zk_X11_leaves_55 C y1 S11 v12 (fun H locs ls w hl => ?_) _ _ _ _ _ hc _ _ _ w (lv_sub hl [3, 4, 2, 1, 0] rfl)
  clear hc
  refine lv_aload_n C.1 C.2.1 dX11_leaves_123 rfl (lv_at hl 0 rfl) ?_
  refine zr_get C w 40 zm_w_X11 (zw_g40 G _) rfl 19 (by decide) zm_f_X11_42 rfl dX11_leaves_124 ?_
  refine lv_iload_n C.1 C.2.1 dX11_leaves_127 rfl (lv_at hl 1 rfl) ?_
  refine lv_lload_n C.1 C.2.1 dX11_leaves_128 rfl (lv_at hl 2 rfl) ?_
  refine zr_last C w 50 (zw_g50 G _) (zw_s50 G _) dX11_leaves_129 h (fun S13 H locs w h => ?_)
  obtain ⟨v14, e_, h⟩ := zc_lt_x h
  refine lv_iinc (v := v14) (lv' := [(1, .int v14), (0, .ref (zg_q G 40)), (2, .long v12)]) C.1 C.2.1 dX11_leaves_130 hl (k := 1) rfl (by subst e_; rfl) (by decide) rfl (fun ls hl => ?_)
  clear e_
  refine lv_goto (tgt := 2) C.1 C.2.1 dX11_leaves_133 (by decide) ?_
  exact ih _ _ h _ _ _ w (lv_sub hl [1, 0] rfl)
set_option maxHeartbeats 4000000 in
set_option maxRecDepth 100000 in
theorem zq_X11_leaves_31 {p : Program} {l : Launch} {e : Env} {s : State} {m : MethodId} {args : Array Value} {below : List Frame} {meth : Method} {c : Code} {G : zg_T} {Q : State → Prop} (C : zx_C p s m args meth c G RX11 cX11_leaves 9) (rec : zs_T → Int32 → Option zs_T) (S : zs_T) (y1 : Int32) (oS : zs_T) (kont : ∀ (H : Heap) (locs : List Loc) (ls : Array Slot), zg_W G oS s H locs → lv_has ls 9 [] → W p l e zr_m_X11_leaves s m args below meth c H locs 0 0 Q (F0 m 136 ls [])) (ih : ∀ (S : zs_T) (x1 : Int32), rec S x1 = some oS → ∀ (H : Heap) (locs : List Loc) (ls : Array Slot), zg_W G S s H locs → lv_has ls 9 [(0, .ref (zg_q G 40)), (1, .int x1)] → W p l e zr_m_X11_leaves s m args below meth c H locs 0 0 Q (F0 m 2 ls [])) (h : zj_X11_leaves_31 rec S y1 = some oS) (H : Heap) (locs : List Loc) (ls : Array Slot) (w : zg_W G S s H locs) (hl : lv_has ls 9 [(0, .ref (zg_q G 40)), (1, .int y1)]) : W p l e zr_m_X11_leaves s m args below meth c H locs 0 0 Q (F0 m 31 ls []) := by
  unfold zj_X11_leaves_31 at h
  refine lv_aload_n C.1 C.2.1 dX11_leaves_31 rfl (lv_at hl 0 rfl) ?_
  refine lv_iload_n C.1 C.2.1 dX11_leaves_32 rfl (lv_at hl 1 rfl) ?_
  refine lv_iconst (v := 0) C.1 C.2.1 dX11_leaves_33 (by decide) ?_
  obtain ⟨S1, hc, h⟩ := zc_b1_x h
  refine zr_callVv C w 40 (zw_g40 G _) rfl (As := [.int y1, .int (0 : Int32)]) (zm_X11_makesR l G _ _ _ _ hc) zm_c_X11_makesR zm_l_X11_167 zm_i_X11_makesR zm_e_X11_makesR zm_0_X11 zm_d_X11_makesR ⟨rfl, rfl⟩ ⟨Nat.le_of_ble_eq_true rfl, Nat.le_of_ble_eq_true rfl⟩ hl.1 rfl rfl (Nat.le_of_ble_eq_true rfl) dX11_leaves_34 ⟨Nat.le_of_ble_eq_true rfl, Nat.le_of_ble_eq_true rfl⟩ (fun H locs w => ?_)
  clear hc
  exact zq_X11_leaves_37 C rec _ _ _ kont ih h _ _ _ w (lv_sub hl [0, 1] rfl)
set_option maxHeartbeats 4000000 in
set_option maxRecDepth 100000 in
theorem zk_X11_leaves_2 {p : Program} {l : Launch} {e : Env} {s : State} {m : MethodId} {args : Array Value} {below : List Frame} {meth : Method} {c : Code} {G : zg_T} {Q : State → Prop} (C : zx_C p s m args meth c G RX11 cX11_leaves 9) (oS : zs_T) (kont : ∀ (H : Heap) (locs : List Loc) (ls : Array Slot), zg_W G oS s H locs → lv_has ls 9 [] → W p l e zr_m_X11_leaves s m args below meth c H locs 0 0 Q (F0 m 136 ls [])) : ∀ (n : Nat) (S : zs_T) (x1 : Int32), zl_2 (zb_X11_leaves_2) n S x1 = some oS → ∀ (H : Heap) (locs : List Loc) (ls : Array Slot), zg_W G S s H locs → lv_has ls 9 [(0, .ref (zg_q G 40)), (1, .int x1)] → W p l e zr_m_X11_leaves s m args below meth c H locs 0 0 Q (F0 m 2 ls []) := by
  intro n
  induction n with
  | zero => intro S x1 h; cases h
  | succ n ih =>
    intro S x1 h H locs ls w hl
    replace h : zb_X11_leaves_2 (zl_2 (zb_X11_leaves_2) n) S x1 = some oS := h
    generalize zl_2 (zb_X11_leaves_2) n = rec at ih h
    unfold zb_X11_leaves_2 at h
    refine lv_iload_n C.1 C.2.1 dX11_leaves_2 rfl (lv_at hl 1 rfl) ?_
    refine lv_sipush (v := 160) C.1 C.2.1 dX11_leaves_3 (by decide) ?_
    refine zr_ic_ge (tgt := 136) C dX11_leaves_6 (by decide) h (fun h => ?_) (fun h => ?_)
    · cases h
      exact kont _ _ _ w (lv_sub hl [] rfl)
    · refine lv_iload_n C.1 C.2.1 dX11_leaves_9 rfl (lv_at hl 1 rfl) ?_
      refine zr_if_eq (tgt := 31) C dX11_leaves_10 (by decide) h (fun h => ?_) (fun h => ?_)
      · exact zq_X11_leaves_31 C rec _ _ _ kont ih h _ _ _ w (lv_sub hl [0, 1] rfl)
      · refine lv_iload_n C.1 C.2.1 dX11_leaves_13 rfl (lv_at hl 1 rfl) ?_
        refine lv_bipush (v := 13) C.1 C.2.1 dX11_leaves_14 (by decide) ?_
        refine zr_ic_eq (tgt := 31) C dX11_leaves_16 (by decide) h (fun h => ?_) (fun h => ?_)
        · exact zq_X11_leaves_31 C rec _ _ _ kont ih h _ _ _ w (lv_sub hl [0, 1] rfl)
        · refine lv_iload_n C.1 C.2.1 dX11_leaves_19 rfl (lv_at hl 1 rfl) ?_
          refine lv_bipush (v := 27) C.1 C.2.1 dX11_leaves_20 (by decide) ?_
          refine zr_ic_eq (tgt := 31) C dX11_leaves_22 (by decide) h (fun h => ?_) (fun h => ?_)
          · exact zq_X11_leaves_31 C rec _ _ _ kont ih h _ _ _ w (lv_sub hl [0, 1] rfl)
          · refine lv_iload_n C.1 C.2.1 dX11_leaves_25 rfl (lv_at hl 1 rfl) ?_
            refine lv_bipush (v := 40) C.1 C.2.1 dX11_leaves_26 (by decide) ?_
            refine zr_ic_ne (tgt := 37) C dX11_leaves_28 (by decide) h (fun h => ?_) (fun h => ?_)
            · exact zq_X11_leaves_37 C rec _ _ _ kont ih h _ _ _ w (lv_sub hl [0, 1] rfl)
            · exact zq_X11_leaves_31 C rec _ _ _ kont ih h _ _ _ w (lv_sub hl [0, 1] rfl)
set_option maxHeartbeats 4000000 in
set_option maxRecDepth 100000 in
theorem zm_X11_leaves (l : Launch) (G : zg_T) (S : zs_T) (S1 : zs_T) (h : zf_X11_leaves S = some S1) : Met l yX11_leaves (Cond.code yX11_leaves cX11_leaves 9 none :: zt_G) zr_m_X11_leaves (va_Pc [.ref (zg_q G 40)] (zg_P G S)) (zg_Q G none S1) 0 0 (zg_A G) := by
  refine zx_met (by decide +kernel) (Nat.le_of_ble_eq_true rfl) (lv := [(0, .ref (zg_q G 40))]) rfl ?_
  intro p e s m below meth c C hr w ls hl
  replace C : zx_C p s m _ meth c G RX11 cX11_leaves 9 := C
  unfold zf_X11_leaves at h
  refine lv_iconst (v := 0) C.1 C.2.1 dX11_leaves_0 (by decide) ?_
  refine lv_istore_n (lv' := [(1, .int (0 : Int32)), (0, .ref (zg_q G 40))]) C.1 C.2.1 dX11_leaves_1 rfl hl (by decide) rfl (fun ls hl => ?_)
  obtain ⟨S15, hc, h⟩ := zc_b1_x h
  refine zk_X11_leaves_2 C S15 (fun H locs ls w hl => ?_) _ _ _ hc _ _ _ w (lv_sub hl [1, 0] rfl)
  clear hc
  exact zr_retv C w hr dX11_leaves_136 (Option.some.inj h)
set_option maxHeartbeats 4000000 in
set_option maxRecDepth 100000 in
theorem zk_X11_keepsG_2 {p : Program} {l : Launch} {e : Env} {s : State} {m : MethodId} {args : Array Value} {below : List Frame} {meth : Method} {c : Code} {G : zg_T} {Q : State → Prop} (C : zx_C p s m args meth c G RX11 cX11_keepsG 3) (f1 : Int32) (oS : zs_T) (kont : ∀ (H : Heap) (locs : List Loc) (ls : Array Slot), zg_W G oS s H locs → lv_has ls 3 [] → W p l e zr_m_X11_keepsG s m args below meth c H locs 0 0 Q (F0 m 28 ls [])) : ∀ (n : Nat) (S : zs_T) (x2 : Int32), zl_2 (zb_X11_keepsG_2 f1) n S x2 = some oS → ∀ (H : Heap) (locs : List Loc) (ls : Array Slot), zg_W G S s H locs → lv_has ls 3 [(0, .ref (zg_q G 40)), (1, .int f1), (2, .int x2)] → W p l e zr_m_X11_keepsG s m args below meth c H locs 0 0 Q (F0 m 2 ls []) := by
  intro n
  induction n with
  | zero => intro S x2 h; cases h
  | succ n ih =>
    intro S x2 h H locs ls w hl
    replace h : zb_X11_keepsG_2 f1 (zl_2 (zb_X11_keepsG_2 f1) n) S x2 = some oS := h
    generalize zl_2 (zb_X11_keepsG_2 f1) n = rec at ih h
    unfold zb_X11_keepsG_2 at h
    refine lv_iload_n C.1 C.2.1 dX11_keepsG_2 rfl (lv_at hl 2 rfl) ?_
    refine lv_bipush (v := 8) C.1 C.2.1 dX11_keepsG_3 (by decide) ?_
    refine zr_ic_ge (tgt := 28) C dX11_keepsG_5 (by decide) h (fun h => ?_) (fun h => ?_)
    · cases h
      exact kont _ _ _ w (lv_sub hl [] rfl)
    · refine lv_aload_n C.1 C.2.1 dX11_keepsG_8 rfl (lv_at hl 0 rfl) ?_
      refine zr_get C w 40 zm_w_X11 (zw_g40 G _) rfl 12 (by decide) zm_f_X11_23 rfl dX11_keepsG_9 ?_
      refine lv_iload_n C.1 C.2.1 dX11_keepsG_12 rfl (lv_at hl 1 rfl) ?_
      refine lv_iload_n C.1 C.2.1 dX11_keepsG_13 rfl (lv_at hl 2 rfl) ?_
      refine lv_iadd C.1 C.2.1 dX11_keepsG_14 ?_
      refine lv_aload_n C.1 C.2.1 dX11_keepsG_15 rfl (lv_at hl 0 rfl) ?_
      refine zr_get C w 40 zm_w_X11 (zw_g40 G _) rfl 26 (by decide) zm_f_X11_63 rfl dX11_keepsG_16 ?_
      refine lv_iload_n C.1 C.2.1 dX11_keepsG_19 rfl (lv_at hl 2 rfl) ?_
      refine zr_lald C w 57 (zw_g57 G _) dX11_keepsG_20 h (fun h => ?_)
      refine zr_last C w 45 (zw_g45 G _) (zw_s45 G _) dX11_keepsG_21 h (fun S1 H locs w h => ?_)
      obtain ⟨v2, e_, h⟩ := zc_lt_x h
      refine lv_iinc (v := v2) (lv' := [(2, .int v2), (0, .ref (zg_q G 40)), (1, .int f1)]) C.1 C.2.1 dX11_keepsG_22 hl (k := 2) rfl (by subst e_; rfl) (by decide) rfl (fun ls hl => ?_)
      clear e_
      refine lv_goto (tgt := 2) C.1 C.2.1 dX11_keepsG_25 (by decide) ?_
      exact ih _ _ h _ _ _ w (lv_sub hl [1, 2, 0] rfl)
set_option maxHeartbeats 4000000 in
set_option maxRecDepth 100000 in
theorem zm_X11_keepsG (l : Launch) (G : zg_T) (S : zs_T) (a1 : Int32) (S1 : zs_T) (h : zf_X11_keepsG S a1 = some S1) : Met l yX11_keepsG (Cond.code yX11_keepsG cX11_keepsG 3 none :: zt_G) zr_m_X11_keepsG (va_Pc [.ref (zg_q G 40), .int a1] (zg_P G S)) (zg_Q G none S1) 0 0 (zg_A G) := by
  refine zx_met (by decide +kernel) (Nat.le_of_ble_eq_true rfl) (lv := [(0, .ref (zg_q G 40)), (1, .int a1)]) rfl ?_
  intro p e s m below meth c C hr w ls hl
  replace C : zx_C p s m _ meth c G RX11 cX11_keepsG 3 := C
  unfold zf_X11_keepsG at h
  refine lv_iconst (v := 0) C.1 C.2.1 dX11_keepsG_0 (by decide) ?_
  refine lv_istore_n (lv' := [(2, .int (0 : Int32)), (0, .ref (zg_q G 40)), (1, .int a1)]) C.1 C.2.1 dX11_keepsG_1 rfl hl (by decide) rfl (fun ls hl => ?_)
  obtain ⟨S3, hc, h⟩ := zc_b1_x h
  refine zk_X11_keepsG_2 C a1 S3 (fun H locs ls w hl => ?_) _ _ _ hc _ _ _ w (lv_sub hl [1, 2, 0] rfl)
  clear hc
  exact zr_retv C w hr dX11_keepsG_28 (Option.some.inj h)
set_option maxHeartbeats 4000000 in
set_option maxRecDepth 100000 in
theorem zk_X11_greatest_5_50 {p : Program} {l : Launch} {e : Env} {s : State} {m : MethodId} {args : Array Value} {below : List Frame} {meth : Method} {c : Code} {G : zg_T} {Q : State → Prop} (C : zx_C p s m args meth c G RX11 cX11_greatest 6) (S : zs_T) (f1 : Int32) (f2 : Int32) (o3 : Int64) (kont : ∀ (H : Heap) (locs : List Loc) (ls : Array Slot), zg_W G S s H locs → lv_has ls 6 [(3, .long o3)] → W p l e zr_m_X11_greatest s m args below meth c H locs 0 0 Q (F0 m 43 ls [])) : ∀ (n : Nat) (x3 : Int64) (x5 : Int32), zl_2 (zb_X11_greatest_5 50 S f1 f2) n x3 x5 = some o3 → ∀ (H : Heap) (locs : List Loc) (ls : Array Slot), zg_W G S s H locs → lv_has ls 6 [(0, .ref (zg_q G 50)), (1, .int f1), (2, .int f2), (3, .long x3), (5, .int x5)] → W p l e zr_m_X11_greatest s m args below meth c H locs 0 0 Q (F0 m 5 ls []) := by
  intro n
  induction n with
  | zero => intro x3 x5 h; cases h
  | succ n ih =>
    intro x3 x5 h H locs ls w hl
    replace h : zb_X11_greatest_5 50 S f1 f2 (zl_2 (zb_X11_greatest_5 50 S f1 f2) n) x3 x5 = some o3 := h
    generalize zl_2 (zb_X11_greatest_5 50 S f1 f2) n = rec at ih h
    unfold zb_X11_greatest_5 at h
    refine lv_iload C.1 C.2.1 dX11_greatest_5 (lv_at hl 4 rfl) ?_
    refine lv_iload_n C.1 C.2.1 dX11_greatest_7 rfl (lv_at hl 1 rfl) ?_
    refine lv_iload_n C.1 C.2.1 dX11_greatest_8 rfl (lv_at hl 2 rfl) ?_
    refine lv_iadd C.1 C.2.1 dX11_greatest_9 ?_
    refine zr_ic_ge (tgt := 43) C dX11_greatest_10 (by decide) h (fun h => ?_) (fun h => ?_)
    · cases h
      exact kont _ _ _ w (lv_sub hl [3] rfl)
    · refine lv_aload_n C.1 C.2.1 dX11_greatest_13 rfl (lv_at hl 0 rfl) ?_
      refine lv_iload C.1 C.2.1 dX11_greatest_14 (lv_at hl 4 rfl) ?_
      refine zr_lald C w 50 (zw_g50 G _) dX11_greatest_16 h (fun h => ?_)
      refine zr_callSl C w (As := [.long (S.2 50 (Int32.toNatClampNeg x5))]) (zm_X11_size l G _ _ _ rfl) zm_c_X11_size zm_l_X11_124 zm_s_X11_size zm_0_X11 zm_d_X11_size ⟨rfl, rfl⟩ ⟨Nat.le_of_ble_eq_true rfl, Nat.le_of_ble_eq_true rfl⟩ hl.1 rfl rfl (Nat.le_of_ble_eq_true rfl) dX11_greatest_17 ⟨Nat.le_of_ble_eq_true rfl, Nat.le_of_ble_eq_true rfl⟩ (fun H locs w => ?_)
      refine zr_ltl h (fun v1 h => ?_)
      refine lv_lload_n C.1 C.2.1 dX11_greatest_20 rfl (lv_at hl 3 rfl) ?_
      refine zr_lc_le (tgt := 35) C dX11_greatest_21 dX11_greatest_22 (by decide) h (fun h => ?_) (fun h => ?_)
      · refine lv_lload_n C.1 C.2.1 dX11_greatest_35 rfl (lv_at hl 3 rfl) ?_
        refine lv_lstore_n (lv' := [(3, .long x3), (0, .ref (zg_q G 50)), (1, .int f1), (2, .int f2), (5, .int x5)]) C.1 C.2.1 dX11_greatest_36 rfl hl (by decide) rfl (fun ls hl => ?_)
        obtain ⟨v2, e_, h⟩ := zc_lt_x h
        refine lv_iinc (v := v2) (lv' := [(5, .int v2), (3, .long x3), (0, .ref (zg_q G 50)), (1, .int f1), (2, .int f2)]) C.1 C.2.1 dX11_greatest_37 hl (k := 4) rfl (by subst e_; rfl) (by decide) rfl (fun ls hl => ?_)
        clear e_
        refine lv_goto (tgt := 5) C.1 C.2.1 dX11_greatest_40 (by decide) ?_
        exact ih _ _ h _ _ _ w (lv_sub hl [2, 3, 4, 1, 0] rfl)
      · refine lv_aload_n C.1 C.2.1 dX11_greatest_25 rfl (lv_at hl 0 rfl) ?_
        refine lv_iload C.1 C.2.1 dX11_greatest_26 (lv_at hl 4 rfl) ?_
        refine zr_lald C w 50 (zw_g50 G _) dX11_greatest_28 h (fun h => ?_)
        refine zr_callSl C w (As := [.long (S.2 50 (Int32.toNatClampNeg x5))]) (zm_X11_size l G _ _ _ rfl) zm_c_X11_size zm_l_X11_124 zm_s_X11_size zm_0_X11 zm_d_X11_size ⟨rfl, rfl⟩ ⟨Nat.le_of_ble_eq_true rfl, Nat.le_of_ble_eq_true rfl⟩ hl.1 rfl rfl (Nat.le_of_ble_eq_true rfl) dX11_greatest_29 ⟨Nat.le_of_ble_eq_true rfl, Nat.le_of_ble_eq_true rfl⟩ (fun H locs w => ?_)
        refine zr_ltl h (fun v3 h => ?_)
        refine lv_goto (tgt := 36) C.1 C.2.1 dX11_greatest_32 (by decide) ?_
        refine lv_lstore_n (lv' := [(3, .long v3), (0, .ref (zg_q G 50)), (1, .int f1), (2, .int f2), (5, .int x5)]) C.1 C.2.1 dX11_greatest_36 rfl hl (by decide) rfl (fun ls hl => ?_)
        obtain ⟨v4, e_, h⟩ := zc_lt_x h
        refine lv_iinc (v := v4) (lv' := [(5, .int v4), (3, .long v3), (0, .ref (zg_q G 50)), (1, .int f1), (2, .int f2)]) C.1 C.2.1 dX11_greatest_37 hl (k := 4) rfl (by subst e_; rfl) (by decide) rfl (fun ls hl => ?_)
        clear e_
        refine lv_goto (tgt := 5) C.1 C.2.1 dX11_greatest_40 (by decide) ?_
        exact ih _ _ h _ _ _ w (lv_sub hl [2, 3, 4, 1, 0] rfl)
set_option maxHeartbeats 4000000 in
set_option maxRecDepth 100000 in
theorem zm_X11_greatest_50 (l : Launch) (G : zg_T) (S : zs_T) (a1 : Int32) (a2 : Int32) (r : Int64) (h : zf_X11_greatest 50 S a1 a2 = some r) : Met l yX11_greatest (Cond.code yX11_greatest cX11_greatest 6 (some .long) :: zt_G) zr_m_X11_greatest (va_Pc [.ref (zg_q G 50), .int a1, .int a2] (zg_P G S)) (zg_Q G (some (.long r)) S) 0 0 (zg_A G) := by
  refine zx_met (by decide +kernel) (Nat.le_of_ble_eq_true rfl) (lv := [(0, .ref (zg_q G 50)), (1, .int a1), (2, .int a2)]) rfl ?_
  intro p e s m below meth c C hr w ls hl
  replace C : zx_C p s m _ meth c G RX11 cX11_greatest 6 := C
  unfold zf_X11_greatest at h
  refine lv_lconst (v := 0) C.1 C.2.1 dX11_greatest_0 (by decide) ?_
  refine lv_lstore_n (lv' := [(3, .long (0 : Int64)), (0, .ref (zg_q G 50)), (1, .int a1), (2, .int a2)]) C.1 C.2.1 dX11_greatest_1 rfl hl (by decide) rfl (fun ls hl => ?_)
  refine lv_iload_n C.1 C.2.1 dX11_greatest_2 rfl (lv_at hl 2 rfl) ?_
  refine lv_istore (lv' := [(5, .int a1), (3, .long (0 : Int64)), (0, .ref (zg_q G 50)), (1, .int a1), (2, .int a2)]) C.1 C.2.1 dX11_greatest_3 hl (by decide) rfl (fun ls hl => ?_)
  obtain ⟨v5, hc, h⟩ := zc_b1_x h
  refine zk_X11_greatest_5_50 C _ a1 a2 v5 (fun H locs ls w hl => ?_) _ _ _ hc _ _ _ w (lv_sub hl [2, 3, 4, 1, 0] rfl)
  clear hc
  refine lv_lload_n C.1 C.2.1 dX11_greatest_43 rfl (lv_at hl 0 rfl) ?_
  exact zr_retl C w hr dX11_greatest_44 (Option.some.inj h) rfl
set_option maxHeartbeats 4000000 in
set_option maxRecDepth 100000 in
theorem zm_X11_tableD (l : Launch) (G : zg_T) (S : zs_T) (a1 : Int32) (r : Int32) (h : zf_X11_tableD a1 = r) : Met l yX11_tableD (Cond.code yX11_tableD cX11_tableD 1 (some .int) :: zt_G) zr_m_X11_tableD (va_Pc [.int a1] (zg_P G S)) (zg_Q G (some (.int r)) S) 0 0 (zg_A G) := by
  refine zx_met (by decide +kernel) (Nat.le_of_ble_eq_true rfl) (lv := [(0, .int a1)]) rfl ?_
  intro p e s m below meth c C hr w ls hl
  replace C : zx_C p s m _ meth c G RX11 cX11_tableD 1 := C
  unfold zf_X11_tableD at h
  refine lv_iload_n C.1 C.2.1 dX11_tableD_0 rfl (lv_at hl 0 rfl) ?_
  refine zr_if_ne (tgt := 10) C dX11_tableD_1 (by decide) h (fun h => ?_) (fun h => ?_)
  · refine lv_iload_n C.1 C.2.1 dX11_tableD_10 rfl (lv_at hl 0 rfl) ?_
    refine lv_iconst (v := 1) C.1 C.2.1 dX11_tableD_11 (by decide) ?_
    refine zr_ic_ne (tgt := 21) C dX11_tableD_12 (by decide) h (fun h => ?_) (fun h => ?_)
    · refine lv_sipush (v := 26214) C.1 C.2.1 dX11_tableD_21 (by decide) ?_
      exact zr_reti C w hr dX11_tableD_24 h rfl
    · refine lv_sipush (v := 16384) C.1 C.2.1 dX11_tableD_15 (by decide) ?_
      refine lv_goto (tgt := 24) C.1 C.2.1 dX11_tableD_18 (by decide) ?_
      exact zr_reti C w hr dX11_tableD_24 h rfl
  · refine lv_sipush (v := 6554) C.1 C.2.1 dX11_tableD_4 (by decide) ?_
    refine lv_goto (tgt := 24) C.1 C.2.1 dX11_tableD_7 (by decide) ?_
    exact zr_reti C w hr dX11_tableD_24 h rfl
set_option maxHeartbeats 4000000 in
set_option maxRecDepth 100000 in
theorem zk_X11_looksBack_74 {p : Program} {l : Launch} {e : Env} {s : State} {m : MethodId} {args : Array Value} {below : List Frame} {meth : Method} {c : Code} {G : zg_T} {Q : State → Prop} (C : zx_C p s m args meth c G RX11 cX11_looksBack 15) (S : zs_T) (f1 : Int32) (f2 : Int32) (f5 : Int32) (f6 : Int32) (f7 : Int64) (f9 : Int32) (o10 : Int64) (kont : ∀ (H : Heap) (locs : List Loc) (ls : Array Slot), zg_W G S s H locs → lv_has ls 15 [(0, .ref (zg_q G 40)), (1, .int f1), (2, .int f2), (5, .int f5), (6, .int f6), (7, .long f7), (9, .int f9), (10, .long o10)] → W p l e zr_m_X11_looksBack s m args below meth c H locs 0 0 Q (F0 m 120 ls [])) : ∀ (n : Nat) (x10 : Int64) (x12 : Int32), zl_2 (zb_X11_looksBack_74 S f1 f2 f5 f9) n x10 x12 = some o10 → ∀ (H : Heap) (locs : List Loc) (ls : Array Slot), zg_W G S s H locs → lv_has ls 15 [(0, .ref (zg_q G 40)), (1, .int f1), (2, .int f2), (5, .int f5), (6, .int f6), (7, .long f7), (9, .int f9), (10, .long x10), (12, .int x12)] → W p l e zr_m_X11_looksBack s m args below meth c H locs 0 0 Q (F0 m 74 ls []) := by
  intro n
  induction n with
  | zero => intro x10 x12 h; cases h
  | succ n ih =>
    intro x10 x12 h H locs ls w hl
    replace h : zb_X11_looksBack_74 S f1 f2 f5 f9 (zl_2 (zb_X11_looksBack_74 S f1 f2 f5 f9) n) x10 x12 = some o10 := h
    generalize zl_2 (zb_X11_looksBack_74 S f1 f2 f5 f9) n = rec at ih h
    unfold zb_X11_looksBack_74 at h
    refine lv_iload C.1 C.2.1 dX11_looksBack_74 (lv_at hl 8 rfl) ?_
    refine lv_bipush (v := 40) C.1 C.2.1 dX11_looksBack_76 (by decide) ?_
    refine zr_ic_ge (tgt := 120) C dX11_looksBack_78 (by decide) h (fun h => ?_) (fun h => ?_)
    · cases h
      exact kont _ _ _ w (lv_sub hl [0, 1, 2, 3, 4, 5, 6, 7] rfl)
    · refine lv_lload C.1 C.2.1 dX11_looksBack_81 (lv_at hl 7 rfl) ?_
      refine lv_aload_n C.1 C.2.1 dX11_looksBack_83 rfl (lv_at hl 0 rfl) ?_
      refine zr_get C w 40 zm_w_X11 (zw_g40 G _) rfl 19 (by decide) zm_f_X11_42 rfl dX11_looksBack_84 ?_
      refine lv_bipush (v := 40) C.1 C.2.1 dX11_looksBack_87 (by decide) ?_
      refine lv_iload_n C.1 C.2.1 dX11_looksBack_89 rfl (lv_at hl 1 rfl) ?_
      refine lv_imul C.1 C.2.1 dX11_looksBack_90 ?_
      refine lv_iload C.1 C.2.1 dX11_looksBack_91 (lv_at hl 8 rfl) ?_
      refine lv_iadd C.1 C.2.1 dX11_looksBack_93 ?_
      refine zr_lald C w 50 (zw_g50 G _) dX11_looksBack_94 h (fun h => ?_)
      refine lv_iload C.1 C.2.1 dX11_looksBack_95 (lv_at hl 3 rfl) ?_
      refine lv_lshr C.1 C.2.1 dX11_looksBack_97 rfl ?_
      refine lv_aload_n C.1 C.2.1 dX11_looksBack_98 rfl (lv_at hl 0 rfl) ?_
      refine zr_get C w 40 zm_w_X11 (zw_g40 G _) rfl 15 (by decide) zm_f_X11_32 rfl dX11_looksBack_99 ?_
      refine lv_iload_n C.1 C.2.1 dX11_looksBack_102 rfl (lv_at hl 2 rfl) ?_
      refine lv_iload C.1 C.2.1 dX11_looksBack_103 (lv_at hl 8 rfl) ?_
      refine lv_iadd C.1 C.2.1 dX11_looksBack_105 ?_
      refine lv_iload C.1 C.2.1 dX11_looksBack_106 (lv_at hl 6 rfl) ?_
      refine lv_isub C.1 C.2.1 dX11_looksBack_108 ?_
      refine zr_lald C w 48 (zw_g48 G _) dX11_looksBack_109 h (fun h => ?_)
      refine lv_lmul C.1 C.2.1 dX11_looksBack_110 ?_
      refine lv_ladd C.1 C.2.1 dX11_looksBack_111 ?_
      refine zr_ltl h (fun v2 h => ?_)
      refine lv_lstore (lv' := [(10, .long v2), (0, .ref (zg_q G 40)), (1, .int f1), (2, .int f2), (5, .int f5), (6, .int f6), (7, .long f7), (9, .int f9), (12, .int x12)]) C.1 C.2.1 dX11_looksBack_112 hl (by decide) rfl (fun ls hl => ?_)
      obtain ⟨v3, e_, h⟩ := zc_lt_x h
      refine lv_iinc (v := v3) (lv' := [(12, .int v3), (10, .long v2), (0, .ref (zg_q G 40)), (1, .int f1), (2, .int f2), (5, .int f5), (6, .int f6), (7, .long f7), (9, .int f9)]) C.1 C.2.1 dX11_looksBack_114 hl (k := 8) rfl (by subst e_; rfl) (by decide) rfl (fun ls hl => ?_)
      clear e_
      refine lv_goto (tgt := 74) C.1 C.2.1 dX11_looksBack_117 (by decide) ?_
      exact ih _ _ h _ _ _ w (lv_sub hl [2, 3, 4, 5, 6, 7, 8, 1, 0] rfl)
set_option maxHeartbeats 4000000 in
set_option maxRecDepth 100000 in
theorem zk_X11_looksBack_61 {p : Program} {l : Launch} {e : Env} {s : State} {m : MethodId} {args : Array Value} {below : List Frame} {meth : Method} {c : Code} {G : zg_T} {Q : State → Prop} (C : zx_C p s m args meth c G RX11 cX11_looksBack 15) (S : zs_T) (f1 : Int32) (f2 : Int32) (f5 : Int32) (o6 : Int32) (o7 : Int64) (kont : ∀ (H : Heap) (locs : List Loc) (ls : Array Slot), zg_W G S s H locs → lv_has ls 15 [(0, .ref (zg_q G 40)), (1, .int f1), (2, .int f2), (5, .int f5), (6, .int o6), (7, .long o7)] → W p l e zr_m_X11_looksBack s m args below meth c H locs 0 0 Q (F0 m 142 ls [])) : ∀ (n : Nat) (x6 : Int32) (x7 : Int64) (x9 : Int32), zl_3 (zb_X11_looksBack_61 S f1 f2 f5) n x6 x7 x9 = some (o6, o7) → ∀ (H : Heap) (locs : List Loc) (ls : Array Slot), zg_W G S s H locs → lv_has ls 15 [(0, .ref (zg_q G 40)), (1, .int f1), (2, .int f2), (5, .int f5), (6, .int x6), (7, .long x7), (9, .int x9)] → W p l e zr_m_X11_looksBack s m args below meth c H locs 0 0 Q (F0 m 61 ls []) := by
  intro n
  induction n with
  | zero => intro x6 x7 x9 h; cases h
  | succ n ih =>
    intro x6 x7 x9 h H locs ls w hl
    replace h : zb_X11_looksBack_61 S f1 f2 f5 (zl_3 (zb_X11_looksBack_61 S f1 f2 f5) n) x6 x7 x9 = some (o6, o7) := h
    generalize zl_3 (zb_X11_looksBack_61 S f1 f2 f5) n = rec at ih h
    unfold zb_X11_looksBack_61 at h
    refine lv_iload C.1 C.2.1 dX11_looksBack_61 (lv_at hl 6 rfl) ?_
    refine lv_bipush (v := 121) C.1 C.2.1 dX11_looksBack_63 (by decide) ?_
    refine zr_ic_ge (tgt := 142) C dX11_looksBack_65 (by decide) h (fun h => ?_) (fun h => ?_)
    · cases h
      exact kont _ _ _ w (lv_sub hl [0, 1, 2, 3, 4, 5] rfl)
    · refine lv_lconst (v := 0) C.1 C.2.1 dX11_looksBack_68 (by decide) ?_
      refine lv_lstore (lv' := [(10, .long (0 : Int64)), (0, .ref (zg_q G 40)), (1, .int f1), (2, .int f2), (5, .int f5), (6, .int x6), (7, .long x7), (9, .int x9)]) C.1 C.2.1 dX11_looksBack_69 hl (by decide) rfl (fun ls hl => ?_)
      refine lv_iconst (v := 0) C.1 C.2.1 dX11_looksBack_71 (by decide) ?_
      refine lv_istore (lv' := [(12, .int (0 : Int32)), (10, .long (0 : Int64)), (0, .ref (zg_q G 40)), (1, .int f1), (2, .int f2), (5, .int f5), (6, .int x6), (7, .long x7), (9, .int x9)]) C.1 C.2.1 dX11_looksBack_72 hl (by decide) rfl (fun ls hl => ?_)
      obtain ⟨v4, hc, h⟩ := zc_b1_x h
      refine zk_X11_looksBack_74 C _ f1 f2 f5 x6 x7 x9 v4 (fun H locs ls w hl => ?_) _ _ _ hc _ _ _ w (lv_sub hl [2, 3, 4, 5, 6, 7, 8, 1, 0] rfl)
      clear hc
      refine lv_lload C.1 C.2.1 dX11_looksBack_120 (lv_at hl 7 rfl) ?_
      refine lv_lload C.1 C.2.1 dX11_looksBack_122 (lv_at hl 5 rfl) ?_
      refine zr_lc_le (tgt := 136) C dX11_looksBack_124 dX11_looksBack_125 (by decide) h (fun h => ?_) (fun h => ?_)
      · obtain ⟨v5, e_, h⟩ := zc_lt_x h
        refine lv_iinc (v := v5) (lv' := [(9, .int v5), (0, .ref (zg_q G 40)), (1, .int f1), (2, .int f2), (5, .int f5), (6, .int x6), (7, .long x7), (10, .long v4)]) C.1 C.2.1 dX11_looksBack_136 hl (k := 6) rfl (by subst e_; rfl) (by decide) rfl (fun ls hl => ?_)
        clear e_
        refine lv_goto (tgt := 61) C.1 C.2.1 dX11_looksBack_139 (by decide) ?_
        exact ih _ _ _ h _ _ _ w (lv_sub hl [1, 2, 3, 4, 5, 6, 0] rfl)
      · refine lv_lload C.1 C.2.1 dX11_looksBack_128 (lv_at hl 7 rfl) ?_
        refine lv_lstore (lv' := [(7, .long v4), (0, .ref (zg_q G 40)), (1, .int f1), (2, .int f2), (5, .int f5), (6, .int x6), (9, .int x9), (10, .long v4)]) C.1 C.2.1 dX11_looksBack_130 hl (by decide) rfl (fun ls hl => ?_)
        refine lv_iload C.1 C.2.1 dX11_looksBack_132 (lv_at hl 6 rfl) ?_
        refine lv_istore (lv' := [(6, .int x9), (7, .long v4), (0, .ref (zg_q G 40)), (1, .int f1), (2, .int f2), (5, .int f5), (9, .int x9), (10, .long v4)]) C.1 C.2.1 dX11_looksBack_134 hl (by decide) rfl (fun ls hl => ?_)
        obtain ⟨v6, e_, h⟩ := zc_lt_x h
        refine lv_iinc (v := v6) (lv' := [(9, .int v6), (6, .int x9), (7, .long v4), (0, .ref (zg_q G 40)), (1, .int f1), (2, .int f2), (5, .int f5), (10, .long v4)]) C.1 C.2.1 dX11_looksBack_136 hl (k := 6) rfl (by subst e_; rfl) (by decide) rfl (fun ls hl => ?_)
        clear e_
        refine lv_goto (tgt := 61) C.1 C.2.1 dX11_looksBack_139 (by decide) ?_
        exact ih _ _ _ h _ _ _ w (lv_sub hl [3, 4, 5, 6, 1, 2, 0] rfl)
set_option maxHeartbeats 4000000 in
set_option maxRecDepth 100000 in
theorem zk_X11_looksBack_162 {p : Program} {l : Launch} {e : Env} {s : State} {m : MethodId} {args : Array Value} {below : List Frame} {meth : Method} {c : Code} {G : zg_T} {Q : State → Prop} (C : zx_C p s m args meth c G RX11 cX11_looksBack 15) (S : zs_T) (f1 : Int32) (f2 : Int32) (f6 : Int32) (f9 : Int64) (o11 : Int64) (kont : ∀ (H : Heap) (locs : List Loc) (ls : Array Slot), zg_W G S s H locs → lv_has ls 15 [(0, .ref (zg_q G 40)), (1, .int f1), (6, .int f6), (9, .long f9), (11, .long o11)] → W p l e zr_m_X11_looksBack s m args below meth c H locs 0 0 Q (F0 m 213 ls [])) : ∀ (n : Nat) (x11 : Int64) (x13 : Int32), zl_2 (zb_X11_looksBack_162 S f2 f6) n x11 x13 = some o11 → ∀ (H : Heap) (locs : List Loc) (ls : Array Slot), zg_W G S s H locs → lv_has ls 15 [(0, .ref (zg_q G 40)), (1, .int f1), (2, .int f2), (6, .int f6), (9, .long f9), (11, .long x11), (13, .int x13)] → W p l e zr_m_X11_looksBack s m args below meth c H locs 0 0 Q (F0 m 162 ls []) := by
  intro n
  induction n with
  | zero => intro x11 x13 h; cases h
  | succ n ih =>
    intro x11 x13 h H locs ls w hl
    replace h : zb_X11_looksBack_162 S f2 f6 (zl_2 (zb_X11_looksBack_162 S f2 f6) n) x11 x13 = some o11 := h
    generalize zl_2 (zb_X11_looksBack_162 S f2 f6) n = rec at ih h
    unfold zb_X11_looksBack_162 at h
    refine lv_iload C.1 C.2.1 dX11_looksBack_162 (lv_at hl 6 rfl) ?_
    refine lv_bipush (v := 40) C.1 C.2.1 dX11_looksBack_164 (by decide) ?_
    refine zr_ic_ge (tgt := 213) C dX11_looksBack_166 (by decide) h (fun h => ?_) (fun h => ?_)
    · cases h
      exact kont _ _ _ w (lv_sub hl [0, 1, 3, 4, 5] rfl)
    · refine lv_lload C.1 C.2.1 dX11_looksBack_169 (lv_at hl 5 rfl) ?_
      refine lv_ldc2 (v := 2) C.1 C.2.1 C.2.2.2.1 (C.2.2.2.2.1 _ zm_k_X11_135) dX11_looksBack_171 ?_
      refine lv_aload_n C.1 C.2.1 dX11_looksBack_174 rfl (lv_at hl 0 rfl) ?_
      refine zr_get C w 40 zm_w_X11 (zw_g40 G _) rfl 15 (by decide) zm_f_X11_32 rfl dX11_looksBack_175 ?_
      refine lv_iload_n C.1 C.2.1 dX11_looksBack_178 rfl (lv_at hl 2 rfl) ?_
      refine lv_iload C.1 C.2.1 dX11_looksBack_179 (lv_at hl 6 rfl) ?_
      refine lv_iadd C.1 C.2.1 dX11_looksBack_181 ?_
      refine lv_iload C.1 C.2.1 dX11_looksBack_182 (lv_at hl 3 rfl) ?_
      refine lv_isub C.1 C.2.1 dX11_looksBack_184 ?_
      refine zr_lald C w 48 (zw_g48 G _) dX11_looksBack_185 h (fun h => ?_)
      refine lv_iconst (v := 3) C.1 C.2.1 dX11_looksBack_186 (by decide) ?_
      refine lv_lshr C.1 C.2.1 dX11_looksBack_187 rfl ?_
      refine lv_lmul C.1 C.2.1 dX11_looksBack_188 ?_
      refine lv_aload_n C.1 C.2.1 dX11_looksBack_189 rfl (lv_at hl 0 rfl) ?_
      refine zr_get C w 40 zm_w_X11 (zw_g40 G _) rfl 15 (by decide) zm_f_X11_32 rfl dX11_looksBack_190 ?_
      refine lv_iload_n C.1 C.2.1 dX11_looksBack_193 rfl (lv_at hl 2 rfl) ?_
      refine lv_iload C.1 C.2.1 dX11_looksBack_194 (lv_at hl 6 rfl) ?_
      refine lv_iadd C.1 C.2.1 dX11_looksBack_196 ?_
      refine lv_iload C.1 C.2.1 dX11_looksBack_197 (lv_at hl 3 rfl) ?_
      refine lv_isub C.1 C.2.1 dX11_looksBack_199 ?_
      refine zr_lald C w 48 (zw_g48 G _) dX11_looksBack_200 h (fun h => ?_)
      refine lv_iconst (v := 3) C.1 C.2.1 dX11_looksBack_201 (by decide) ?_
      refine lv_lshr C.1 C.2.1 dX11_looksBack_202 rfl ?_
      refine lv_lmul C.1 C.2.1 dX11_looksBack_203 ?_
      refine lv_ladd C.1 C.2.1 dX11_looksBack_204 ?_
      refine zr_ltl h (fun v10 h => ?_)
      refine lv_lstore (lv' := [(11, .long v10), (0, .ref (zg_q G 40)), (1, .int f1), (2, .int f2), (6, .int f6), (9, .long f9), (13, .int x13)]) C.1 C.2.1 dX11_looksBack_205 hl (by decide) rfl (fun ls hl => ?_)
      obtain ⟨v11, e_, h⟩ := zc_lt_x h
      refine lv_iinc (v := v11) (lv' := [(13, .int v11), (11, .long v10), (0, .ref (zg_q G 40)), (1, .int f1), (2, .int f2), (6, .int f6), (9, .long f9)]) C.1 C.2.1 dX11_looksBack_207 hl (k := 6) rfl (by subst e_; rfl) (by decide) rfl (fun ls hl => ?_)
      clear e_
      refine lv_goto (tgt := 162) C.1 C.2.1 dX11_looksBack_210 (by decide) ?_
      exact ih _ _ h _ _ _ w (lv_sub hl [2, 3, 4, 5, 6, 1, 0] rfl)
set_option maxHeartbeats 4000000 in
set_option maxRecDepth 100000 in
theorem zq_X11_looksBack_288 {p : Program} {l : Launch} {e : Env} {s : State} {m : MethodId} {args : Array Value} {below : List Frame} {meth : Method} {c : Code} {G : zg_T} (hr : meth.sig.returnType = none) (C : zx_C p s m args meth c G RX11 cX11_looksBack 15) (S1 : zs_T) (S : zs_T) (y1 : Int32) (y6 : Int32) (y13 : Int32) (h : zj_X11_looksBack_288 S y1 y6 y13 = some S1) (H : Heap) (locs : List Loc) (ls : Array Slot) (w : zg_W G S s H locs) (hl : lv_has ls 15 [(0, .ref (zg_q G 40)), (1, .int y1), (6, .int y6), (13, .int y13)]) : W p l e zr_m_X11_looksBack s m args below meth c H locs 0 0 (MQ below (zg_Q G none S1) args s 0 0 (zg_A G)) (F0 m 288 ls []) := by
  unfold zj_X11_looksBack_288 at h
  refine lv_aload_n C.1 C.2.1 dX11_looksBack_288 rfl (lv_at hl 0 rfl) ?_
  refine zr_get C w 40 zm_w_X11 (zw_g40 G _) rfl 5 (by decide) zm_f_X11_17 rfl dX11_looksBack_289 ?_
  refine lv_bipush (v := 8) C.1 C.2.1 dX11_looksBack_292 (by decide) ?_
  refine lv_bipush (v := 17) C.1 C.2.1 dX11_looksBack_294 (by decide) ?_
  refine lv_iload_n C.1 C.2.1 dX11_looksBack_296 rfl (lv_at hl 1 rfl) ?_
  refine lv_imul C.1 C.2.1 dX11_looksBack_297 ?_
  refine lv_iadd C.1 C.2.1 dX11_looksBack_298 ?_
  refine lv_iload C.1 C.2.1 dX11_looksBack_299 (lv_at hl 2 rfl) ?_
  refine zr_iast C w 43 (zw_g43 G _) (zw_s43 G _) dX11_looksBack_301 h (fun S13 H locs w h => ?_)
  refine lv_aload_n C.1 C.2.1 dX11_looksBack_302 rfl (lv_at hl 0 rfl) ?_
  refine zr_get C w 40 zm_w_X11 (zw_g40 G _) rfl 5 (by decide) zm_f_X11_17 rfl dX11_looksBack_303 ?_
  refine lv_bipush (v := 9) C.1 C.2.1 dX11_looksBack_306 (by decide) ?_
  refine lv_bipush (v := 17) C.1 C.2.1 dX11_looksBack_308 (by decide) ?_
  refine lv_iload_n C.1 C.2.1 dX11_looksBack_310 rfl (lv_at hl 1 rfl) ?_
  refine lv_imul C.1 C.2.1 dX11_looksBack_311 ?_
  refine lv_iadd C.1 C.2.1 dX11_looksBack_312 ?_
  refine lv_iload C.1 C.2.1 dX11_looksBack_313 (lv_at hl 3 rfl) ?_
  refine zr_iast C w 43 (zw_g43 G _) (zw_s43 G _) dX11_looksBack_315 h (fun S14 H locs w h => ?_)
  exact zr_retv C w hr dX11_looksBack_316 (Option.some.inj h)
set_option maxHeartbeats 4000000 in
set_option maxRecDepth 100000 in
theorem zk_X11_looksBack_247 {p : Program} {l : Launch} {e : Env} {s : State} {m : MethodId} {args : Array Value} {below : List Frame} {meth : Method} {c : Code} {G : zg_T} {Q : State → Prop} (C : zx_C p s m args meth c G RX11 cX11_looksBack 15) (S : zs_T) (f1 : Int32) (f6 : Int32) (f9 : Int64) (f11 : Int64) (f14 : Int32) (o13 : Int32) (kont : ∀ (H : Heap) (locs : List Loc) (ls : Array Slot), zg_W G S s H locs → lv_has ls 15 [(0, .ref (zg_q G 40)), (1, .int f1), (6, .int f6), (13, .int o13)] → W p l e zr_m_X11_looksBack s m args below meth c H locs 0 0 Q (F0 m 288 ls [])) : ∀ (n : Nat) (x13 : Int32), zl_1 (zb_X11_looksBack_247 S f9 f11 f14) n x13 = some o13 → ∀ (H : Heap) (locs : List Loc) (ls : Array Slot), zg_W G S s H locs → lv_has ls 15 [(0, .ref (zg_q G 40)), (1, .int f1), (6, .int f6), (9, .long f9), (11, .long f11), (13, .int x13), (14, .int f14)] → W p l e zr_m_X11_looksBack s m args below meth c H locs 0 0 Q (F0 m 247 ls []) := by
  intro n
  induction n with
  | zero => intro x13 h; cases h
  | succ n ih =>
    intro x13 h H locs ls w hl
    replace h : zb_X11_looksBack_247 S f9 f11 f14 (zl_1 (zb_X11_looksBack_247 S f9 f11 f14) n) x13 = some o13 := h
    generalize zl_1 (zb_X11_looksBack_247 S f9 f11 f14) n = rec at ih h
    unfold zb_X11_looksBack_247 at h
    refine lv_iload C.1 C.2.1 dX11_looksBack_247 (lv_at hl 5 rfl) ?_
    refine lv_iconst (v := 3) C.1 C.2.1 dX11_looksBack_249 (by decide) ?_
    refine zr_ic_ge (tgt := 288) C dX11_looksBack_250 (by decide) h (fun h => ?_) (fun h => ?_)
    · cases h
      exact kont _ _ _ w (lv_sub hl [0, 1, 2, 5] rfl)
    · refine lv_lload C.1 C.2.1 dX11_looksBack_253 (lv_at hl 3 rfl) ?_
      refine lv_iload C.1 C.2.1 dX11_looksBack_255 (lv_at hl 6 rfl) ?_
      refine lv_lshl C.1 C.2.1 dX11_looksBack_257 rfl ?_
      refine lv_bipush (v := 16) C.1 C.2.1 dX11_looksBack_258 (by decide) ?_
      refine lv_lshr C.1 C.2.1 dX11_looksBack_260 rfl ?_
      refine lv_lload C.1 C.2.1 dX11_looksBack_261 (lv_at hl 4 rfl) ?_
      refine lv_iload C.1 C.2.1 dX11_looksBack_263 (lv_at hl 6 rfl) ?_
      refine lv_lshl C.1 C.2.1 dX11_looksBack_265 rfl ?_
      refine lv_bipush (v := 16) C.1 C.2.1 dX11_looksBack_266 (by decide) ?_
      refine lv_lshr C.1 C.2.1 dX11_looksBack_268 rfl ?_
      refine lv_iload C.1 C.2.1 dX11_looksBack_269 (lv_at hl 5 rfl) ?_
      refine zr_callSi C w (As := [.int x13]) (zm_X11_tableD l G _ _ _ rfl) zm_c_X11_tableD zm_l_X11_171 zm_s_X11_tableD zm_0_X11 zm_d_X11_tableD ⟨rfl, rfl⟩ ⟨Nat.le_of_ble_eq_true rfl, Nat.le_of_ble_eq_true rfl⟩ hl.1 rfl rfl (Nat.le_of_ble_eq_true rfl) dX11_looksBack_271 ⟨Nat.le_of_ble_eq_true rfl, Nat.le_of_ble_eq_true rfl⟩ (fun H locs w => ?_)
      refine zr_lti h (fun v16 h => ?_)
      refine lv_i2l C.1 C.2.1 dX11_looksBack_274 rfl ?_
      refine zr_callSl C w (As := [.long ((f11 <<< (Int32.toInt64 f14 &&& 63)) >>> (Int32.toInt64 (16 : Int32) &&& 63)), .long (Int32.toInt64 v16)]) (zm_X11_lower l G _ _ _ _ rfl) zm_c_X11_lower zm_l_X11_149 zm_s_X11_lower zm_0_X11 zm_d_X11_lower ⟨rfl, rfl⟩ ⟨Nat.le_of_ble_eq_true rfl, Nat.le_of_ble_eq_true rfl⟩ hl.1 rfl rfl (Nat.le_of_ble_eq_true rfl) dX11_looksBack_275 ⟨Nat.le_of_ble_eq_true rfl, Nat.le_of_ble_eq_true rfl⟩ (fun H locs w => ?_)
      refine zr_ltl h (fun v17 h => ?_)
      refine zr_lc_le (tgt := 288) C dX11_looksBack_278 dX11_looksBack_279 (by decide) h (fun h => ?_) (fun h => ?_)
      · cases h
        exact kont _ _ _ w (lv_sub hl [0, 1, 2, 5] rfl)
      · obtain ⟨v18, e_, h⟩ := zc_lt_x h
        refine lv_iinc (v := v18) (lv' := [(13, .int v18), (0, .ref (zg_q G 40)), (1, .int f1), (6, .int f6), (9, .long f9), (11, .long f11), (14, .int f14)]) C.1 C.2.1 dX11_looksBack_282 hl (k := 5) rfl (by subst e_; rfl) (by decide) rfl (fun ls hl => ?_)
        clear e_
        refine lv_goto (tgt := 247) C.1 C.2.1 dX11_looksBack_285 (by decide) ?_
        exact ih _ h _ _ _ w (lv_sub hl [1, 2, 3, 4, 5, 0, 6] rfl)
set_option maxHeartbeats 4000000 in
set_option maxRecDepth 100000 in
theorem zq_X11_looksBack_48 {p : Program} {l : Launch} {e : Env} {s : State} {m : MethodId} {args : Array Value} {below : List Frame} {meth : Method} {c : Code} {G : zg_T} (hr : meth.sig.returnType = none) (C : zx_C p s m args meth c G RX11 cX11_looksBack 15) (S1 : zs_T) (S : zs_T) (y1 : Int32) (y2 : Int32) (z0 : Int32) (h : zj_X11_looksBack_48 S y1 y2 z0 = some S1) (H : Heap) (locs : List Loc) (ls : Array Slot) (w : zg_W G S s H locs) (hl : lv_has ls 15 [(0, .ref (zg_q G 40)), (1, .int y1), (2, .int y2)]) : W p l e zr_m_X11_looksBack s m args below meth c H locs 0 0 (MQ below (zg_Q G none S1) args s 0 0 (zg_A G)) (F0 m 48 ls [.int z0]) := by
  unfold zj_X11_looksBack_48 at h
  refine lv_istore (lv' := [(5, .int z0), (0, .ref (zg_q G 40)), (1, .int y1), (2, .int y2)]) C.1 C.2.1 dX11_looksBack_48 hl (by decide) rfl (fun ls hl => ?_)
  refine lv_bipush (v := 40) C.1 C.2.1 dX11_looksBack_50 (by decide) ?_
  refine lv_istore (lv' := [(6, .int (40 : Int32)), (5, .int z0), (0, .ref (zg_q G 40)), (1, .int y1), (2, .int y2)]) C.1 C.2.1 dX11_looksBack_52 hl (by decide) rfl (fun ls hl => ?_)
  refine lv_lconst (v := 0) C.1 C.2.1 dX11_looksBack_54 (by decide) ?_
  refine lv_lstore (lv' := [(7, .long (0 : Int64)), (6, .int (40 : Int32)), (5, .int z0), (0, .ref (zg_q G 40)), (1, .int y1), (2, .int y2)]) C.1 C.2.1 dX11_looksBack_55 hl (by decide) rfl (fun ls hl => ?_)
  refine lv_bipush (v := 40) C.1 C.2.1 dX11_looksBack_57 (by decide) ?_
  refine lv_istore (lv' := [(9, .int (40 : Int32)), (7, .long (0 : Int64)), (6, .int (40 : Int32)), (5, .int z0), (0, .ref (zg_q G 40)), (1, .int y1), (2, .int y2)]) C.1 C.2.1 dX11_looksBack_59 hl (by decide) rfl (fun ls hl => ?_)
  obtain ⟨v7, v8, hc, h⟩ := zc_b2_x h
  refine zk_X11_looksBack_61 C _ y1 y2 z0 v7 v8 (fun H locs ls w hl => ?_) _ _ _ _ hc _ _ _ w (lv_sub hl [4, 5, 6, 3, 2, 1, 0] rfl)
  clear hc
  refine lv_ldc2 (v := 2) C.1 C.2.1 C.2.2.2.1 (C.2.2.2.2.1 _ zm_k_X11_135) dX11_looksBack_142 ?_
  refine lv_lload C.1 C.2.1 dX11_looksBack_145 (lv_at hl 5 rfl) ?_
  refine lv_lmul C.1 C.2.1 dX11_looksBack_147 ?_
  refine lv_bipush (v := 6) C.1 C.2.1 dX11_looksBack_148 (by decide) ?_
  refine lv_iload C.1 C.2.1 dX11_looksBack_150 (lv_at hl 3 rfl) ?_
  refine lv_isub C.1 C.2.1 dX11_looksBack_152 ?_
  refine lv_lshr C.1 C.2.1 dX11_looksBack_153 rfl ?_
  refine zr_ltl h (fun v9 h => ?_)
  refine lv_lstore (lv' := [(9, .long v9), (0, .ref (zg_q G 40)), (1, .int y1), (2, .int y2), (5, .int z0), (6, .int v7), (7, .long v8)]) C.1 C.2.1 dX11_looksBack_154 hl (by decide) rfl (fun ls hl => ?_)
  refine lv_lconst (v := 0) C.1 C.2.1 dX11_looksBack_156 (by decide) ?_
  refine lv_lstore (lv' := [(11, .long (0 : Int64)), (9, .long v9), (0, .ref (zg_q G 40)), (1, .int y1), (2, .int y2), (5, .int z0), (6, .int v7), (7, .long v8)]) C.1 C.2.1 dX11_looksBack_157 hl (by decide) rfl (fun ls hl => ?_)
  refine lv_iconst (v := 0) C.1 C.2.1 dX11_looksBack_159 (by decide) ?_
  refine lv_istore (lv' := [(13, .int (0 : Int32)), (11, .long (0 : Int64)), (9, .long v9), (0, .ref (zg_q G 40)), (1, .int y1), (2, .int y2), (5, .int z0), (6, .int v7), (7, .long v8)]) C.1 C.2.1 dX11_looksBack_160 hl (by decide) rfl (fun ls hl => ?_)
  obtain ⟨v12, hc, h⟩ := zc_b1_x h
  refine zk_X11_looksBack_162 C _ y1 y2 v7 v9 v12 (fun H locs ls w hl => ?_) _ _ _ hc _ _ _ w (lv_sub hl [3, 4, 5, 7, 2, 1, 0] rfl)
  clear hc
  refine lv_iconst (v := 3) C.1 C.2.1 dX11_looksBack_213 (by decide) ?_
  refine lv_istore (lv' := [(13, .int (3 : Int32)), (0, .ref (zg_q G 40)), (1, .int y1), (6, .int v7), (9, .long v9), (11, .long v12)]) C.1 C.2.1 dX11_looksBack_214 hl (by decide) rfl (fun ls hl => ?_)
  refine lv_lload C.1 C.2.1 dX11_looksBack_216 (lv_at hl 4 rfl) ?_
  refine lv_lconst (v := 0) C.1 C.2.1 dX11_looksBack_218 (by decide) ?_
  refine zr_lc_ne (tgt := 229) C dX11_looksBack_219 dX11_looksBack_220 (by decide) h (fun h => ?_) (fun h => ?_)
  · refine lv_lload C.1 C.2.1 dX11_looksBack_229 (lv_at hl 4 rfl) ?_
    refine lv_lload C.1 C.2.1 dX11_looksBack_231 (lv_at hl 5 rfl) ?_
    refine zr_lc_ge (tgt := 288) C dX11_looksBack_233 dX11_looksBack_234 (by decide) h (fun h => ?_) (fun h => ?_)
    · exact zq_X11_looksBack_288 hr C _ _ _ _ _ h _ _ _ w (lv_sub hl [1, 2, 3, 0] rfl)
    · refine lv_lload C.1 C.2.1 dX11_looksBack_237 (lv_at hl 5 rfl) ?_
      obtain ⟨v15, hc, h⟩ := zc_b1_x h
      refine zr_callSi C w (As := [.long v12]) (zm_X11_norm l G _ _ _ hc) zm_c_X11_norm zm_l_X11_131 zm_s_X11_norm zm_0_X11 zm_d_X11_norm ⟨rfl, rfl⟩ ⟨Nat.le_of_ble_eq_true rfl, Nat.le_of_ble_eq_true rfl⟩ hl.1 rfl rfl (Nat.le_of_ble_eq_true rfl) dX11_looksBack_239 ⟨Nat.le_of_ble_eq_true rfl, Nat.le_of_ble_eq_true rfl⟩ (fun H locs w => ?_)
      clear hc
      refine lv_istore (lv' := [(14, .int v15), (13, .int (3 : Int32)), (0, .ref (zg_q G 40)), (1, .int y1), (6, .int v7), (9, .long v9), (11, .long v12)]) C.1 C.2.1 dX11_looksBack_242 hl (by decide) rfl (fun ls hl => ?_)
      refine lv_iconst (v := 0) C.1 C.2.1 dX11_looksBack_244 (by decide) ?_
      refine lv_istore (lv' := [(13, .int (0 : Int32)), (14, .int v15), (0, .ref (zg_q G 40)), (1, .int y1), (6, .int v7), (9, .long v9), (11, .long v12)]) C.1 C.2.1 dX11_looksBack_245 hl (by decide) rfl (fun ls hl => ?_)
      obtain ⟨v19, hc, h⟩ := zc_b1_x h
      refine zk_X11_looksBack_247 C _ y1 v7 v9 v12 v15 v19 (fun H locs ls w hl => ?_) _ _ hc _ _ _ w (lv_sub hl [2, 3, 4, 5, 6, 0, 1] rfl)
      clear hc
      exact zq_X11_looksBack_288 hr C _ _ _ _ _ h _ _ _ w (lv_sub hl [0, 1, 2, 3] rfl)
  · refine lv_iconst (v := 0) C.1 C.2.1 dX11_looksBack_223 (by decide) ?_
    refine lv_istore (lv' := [(13, .int (0 : Int32)), (0, .ref (zg_q G 40)), (1, .int y1), (6, .int v7), (9, .long v9), (11, .long v12)]) C.1 C.2.1 dX11_looksBack_224 hl (by decide) rfl (fun ls hl => ?_)
    refine lv_goto (tgt := 288) C.1 C.2.1 dX11_looksBack_226 (by decide) ?_
    exact zq_X11_looksBack_288 hr C _ _ _ _ _ h _ _ _ w (lv_sub hl [1, 2, 3, 0] rfl)
set_option maxHeartbeats 4000000 in
set_option maxRecDepth 100000 in
theorem zq_X11_looksBack_33 {p : Program} {l : Launch} {e : Env} {s : State} {m : MethodId} {args : Array Value} {below : List Frame} {meth : Method} {c : Code} {G : zg_T} (hr : meth.sig.returnType = none) (C : zx_C p s m args meth c G RX11 cX11_looksBack 15) (S1 : zs_T) (S : zs_T) (y1 : Int32) (y2 : Int32) (h : zj_X11_looksBack_33 S y1 y2 = some S1) (H : Heap) (locs : List Loc) (ls : Array Slot) (w : zg_W G S s H locs) (hl : lv_has ls 15 [(0, .ref (zg_q G 40)), (1, .int y1), (2, .int y2)]) : W p l e zr_m_X11_looksBack s m args below meth c H locs 0 0 (MQ below (zg_Q G none S1) args s 0 0 (zg_A G)) (F0 m 33 ls []) := by
  unfold zj_X11_looksBack_33 at h
  refine lv_iconst (v := 0) C.1 C.2.1 dX11_looksBack_33 (by decide) ?_
  refine lv_goto (tgt := 48) C.1 C.2.1 dX11_looksBack_34 (by decide) ?_
  exact zq_X11_looksBack_48 hr C _ _ _ _ _ h _ _ _ w (lv_sub hl [0, 1, 2] rfl)
set_option maxHeartbeats 4000000 in
set_option maxRecDepth 100000 in
theorem zm_X11_looksBack (l : Launch) (G : zg_T) (S : zs_T) (a1 : Int32) (a2 : Int32) (S1 : zs_T) (h : zf_X11_looksBack S a1 a2 = some S1) : Met l yX11_looksBack (Cond.code yX11_looksBack cX11_looksBack 15 none :: zt_G) zr_m_X11_looksBack (va_Pc [.ref (zg_q G 40), .int a1, .int a2] (zg_P G S)) (zg_Q G none S1) 0 0 (zg_A G) := by
  refine zx_met (by decide +kernel) (Nat.le_of_ble_eq_true rfl) (lv := [(0, .ref (zg_q G 40)), (1, .int a1), (2, .int a2)]) rfl ?_
  intro p e s m below meth c C hr w ls hl
  replace C : zx_C p s m _ meth c G RX11 cX11_looksBack 15 := C
  unfold zf_X11_looksBack at h
  refine lv_aload_n C.1 C.2.1 dX11_looksBack_0 rfl (lv_at hl 0 rfl) ?_
  refine zr_get C w 40 zm_w_X11 (zw_g40 G _) rfl 19 (by decide) zm_f_X11_42 rfl dX11_looksBack_1 ?_
  refine lv_bipush (v := 40) C.1 C.2.1 dX11_looksBack_4 (by decide) ?_
  refine lv_iload_n C.1 C.2.1 dX11_looksBack_6 rfl (lv_at hl 1 rfl) ?_
  refine lv_imul C.1 C.2.1 dX11_looksBack_7 ?_
  refine lv_bipush (v := 40) C.1 C.2.1 dX11_looksBack_8 (by decide) ?_
  obtain ⟨v1, hc, h⟩ := zc_b1_x h
  refine zr_callSl C w (As := [.ref (zg_q G 50), .int ((40 : Int32) * a1), .int (40 : Int32)]) (zm_X11_greatest_50 l G _ _ _ _ hc) zm_c_X11_greatest zm_l_X11_127 zm_s_X11_greatest zm_0_X11 zm_d_X11_greatest ⟨rfl, rfl⟩ ⟨Nat.le_of_ble_eq_true rfl, Nat.le_of_ble_eq_true rfl⟩ hl.1 rfl rfl (Nat.le_of_ble_eq_true rfl) dX11_looksBack_10 ⟨Nat.le_of_ble_eq_true rfl, Nat.le_of_ble_eq_true rfl⟩ (fun H locs w => ?_)
  clear hc
  refine lv_lstore_n (lv' := [(3, .long v1), (0, .ref (zg_q G 40)), (1, .int a1), (2, .int a2)]) C.1 C.2.1 dX11_looksBack_13 rfl hl (by decide) rfl (fun ls hl => ?_)
  refine lv_lload_n C.1 C.2.1 dX11_looksBack_14 rfl (lv_at hl 0 rfl) ?_
  refine lv_lconst (v := 0) C.1 C.2.1 dX11_looksBack_15 (by decide) ?_
  refine zr_lc_eq (tgt := 33) C dX11_looksBack_16 dX11_looksBack_17 (by decide) h (fun h => ?_) (fun h => ?_)
  · exact zq_X11_looksBack_33 hr C _ _ _ _ h _ _ _ w (lv_sub hl [1, 2, 3] rfl)
  · refine lv_lload_n C.1 C.2.1 dX11_looksBack_20 rfl (lv_at hl 0 rfl) ?_
    refine lv_ldc2 (v := 65536) C.1 C.2.1 C.2.2.2.1 (C.2.2.2.2.1 _ zm_k_X11_97) dX11_looksBack_21 ?_
    refine lv_lmul C.1 C.2.1 dX11_looksBack_24 ?_
    obtain ⟨v20, hc, h⟩ := zc_b1_x h
    refine zr_callSi C w (As := [.long (v1 * (65536 : Int64))]) (zm_X11_norm l G _ _ _ hc) zm_c_X11_norm zm_l_X11_131 zm_s_X11_norm zm_0_X11 zm_d_X11_norm ⟨rfl, rfl⟩ ⟨Nat.le_of_ble_eq_true rfl, Nat.le_of_ble_eq_true rfl⟩ hl.1 rfl rfl (Nat.le_of_ble_eq_true rfl) dX11_looksBack_25 ⟨Nat.le_of_ble_eq_true rfl, Nat.le_of_ble_eq_true rfl⟩ (fun H locs w => ?_)
    clear hc
    refine lv_bipush (v := 6) C.1 C.2.1 dX11_looksBack_28 (by decide) ?_
    refine zr_ic_le (tgt := 37) C dX11_looksBack_30 (by decide) h (fun h => ?_) (fun h => ?_)
    · refine lv_bipush (v := 6) C.1 C.2.1 dX11_looksBack_37 (by decide) ?_
      refine lv_lload_n C.1 C.2.1 dX11_looksBack_39 rfl (lv_at hl 0 rfl) ?_
      refine lv_ldc2 (v := 65536) C.1 C.2.1 C.2.2.2.1 (C.2.2.2.2.1 _ zm_k_X11_97) dX11_looksBack_40 ?_
      refine lv_lmul C.1 C.2.1 dX11_looksBack_43 ?_
      obtain ⟨v21, hc, h⟩ := zc_b1_x h
      refine zr_callSi C w (As := [.long (v1 * (65536 : Int64))]) (zm_X11_norm l G _ _ _ hc) zm_c_X11_norm zm_l_X11_131 zm_s_X11_norm zm_0_X11 zm_d_X11_norm ⟨rfl, rfl⟩ ⟨Nat.le_of_ble_eq_true rfl, Nat.le_of_ble_eq_true rfl⟩ hl.1 rfl rfl (Nat.le_of_ble_eq_true rfl) dX11_looksBack_44 ⟨Nat.le_of_ble_eq_true rfl, Nat.le_of_ble_eq_true rfl⟩ (fun H locs w => ?_)
      clear hc
      refine lv_isub C.1 C.2.1 dX11_looksBack_47 ?_
      exact zq_X11_looksBack_48 hr C _ _ _ _ _ h _ _ _ w (lv_sub hl [1, 2, 3] rfl)
    · exact zq_X11_looksBack_33 hr C _ _ _ _ h _ _ _ w (lv_sub hl [1, 2, 3] rfl)
