set_option maxHeartbeats 4000000 in
set_option maxRecDepth 100000 in
theorem zq_X11_state_67 {p : Program} {l : Launch} {e : Env} {s : State} {m : MethodId} {args : Array Value} {below : List Frame} {meth : Method} {c : Code} {G : zg_T} (hr : meth.sig.returnType = (some .int)) (C : zx_C p s m args meth c G RX11 cX11_state 4) (r : Int32) (S1 : zs_T) (S : zs_T) (y1 : Int32) (y2 : Int32) (z0 : Int32) (h : zj_X11_state_67 S y1 y2 z0 = some (r, S1)) (H : Heap) (locs : List Loc) (ls : Array Slot) (w : zg_W G S s H locs) (hl : lv_has ls 4 [(0, .ref (zg_q G 40)), (1, .int y1), (2, .int y2)]) : W p l e zr_m_X11_state s m args below meth c H locs 0 0 (MQ below (zg_Q G (some (.int r)) S1) args s 0 0 (zg_A G)) (F0 m 67 ls [.int z0, .ref (zg_q G 40)]) := by
  unfold zj_X11_state_67 at h
  obtain ⟨v1, S2, hc, h⟩ := zc_b2_x h
  refine zr_callVi C w 40 (zw_g40 G _) rfl (As := [.int z0]) (zm_X11_refuses l G _ _ _ _ hc) zm_c_X11_refuses zm_l_X11_91 zm_i_X11_refuses zm_e_X11_refuses zm_0_X11 zm_d_X11_refuses ⟨rfl, rfl⟩ ⟨Nat.le_of_ble_eq_true rfl, Nat.le_of_ble_eq_true rfl⟩ hl.1 rfl rfl (Nat.le_of_ble_eq_true rfl) dX11_state_67 ⟨Nat.le_of_ble_eq_true rfl, Nat.le_of_ble_eq_true rfl⟩ (fun H locs w => ?_)
  clear hc
  refine zr_if_eq (tgt := 75) C dX11_state_70 (by decide) h (fun h => ?_) (fun h => ?_)
  · refine lv_iload_n C.1 C.2.1 dX11_state_75 rfl (lv_at hl 1 rfl) ?_
    by_cases c0 : y1 = (0 : Int32)
    · replace h := (if_pos c0).symm.trans h
      refine lv_tableIn (tgt := 120) C.1 C.2.1 dX11_state_76 (by rw [c0]; decide) (by rw [c0]; decide) (by rw [c0]; rfl) (by decide) ?_
      refine lv_aload_n C.1 C.2.1 dX11_state_120 rfl (lv_at hl 0 rfl) ?_
      refine zr_get C w 40 zm_w_X11 (zw_g40 G _) rfl 12 (by decide) zm_f_X11_23 rfl dX11_state_121 ?_
      refine lv_bipush (v := 8) C.1 C.2.1 dX11_state_124 (by decide) ?_
      refine lv_iload_n C.1 C.2.1 dX11_state_126 rfl (lv_at hl 1 rfl) ?_
      refine lv_imul C.1 C.2.1 dX11_state_127 ?_
      refine lv_iload_n C.1 C.2.1 dX11_state_128 rfl (lv_at hl 2 rfl) ?_
      refine lv_iadd C.1 C.2.1 dX11_state_129 ?_
      refine zr_lald C w 45 (zw_g45 G _) dX11_state_130 h (fun h => ?_)
      refine lv_l2i C.1 C.2.1 dX11_state_131 rfl ?_
      exact zr_reti C w hr dX11_state_132 (congrArg Prod.fst (Option.some.inj h)) (congrArg Prod.snd (Option.some.inj h))
    replace h := (if_neg c0).symm.trans h
    by_cases c1 : y1 = (1 : Int32)
    · replace h := (if_pos c1).symm.trans h
      refine lv_tableIn (tgt := 120) C.1 C.2.1 dX11_state_76 (by rw [c1]; decide) (by rw [c1]; decide) (by rw [c1]; rfl) (by decide) ?_
      refine lv_aload_n C.1 C.2.1 dX11_state_120 rfl (lv_at hl 0 rfl) ?_
      refine zr_get C w 40 zm_w_X11 (zw_g40 G _) rfl 12 (by decide) zm_f_X11_23 rfl dX11_state_121 ?_
      refine lv_bipush (v := 8) C.1 C.2.1 dX11_state_124 (by decide) ?_
      refine lv_iload_n C.1 C.2.1 dX11_state_126 rfl (lv_at hl 1 rfl) ?_
      refine lv_imul C.1 C.2.1 dX11_state_127 ?_
      refine lv_iload_n C.1 C.2.1 dX11_state_128 rfl (lv_at hl 2 rfl) ?_
      refine lv_iadd C.1 C.2.1 dX11_state_129 ?_
      refine zr_lald C w 45 (zw_g45 G _) dX11_state_130 h (fun h => ?_)
      refine lv_l2i C.1 C.2.1 dX11_state_131 rfl ?_
      exact zr_reti C w hr dX11_state_132 (congrArg Prod.fst (Option.some.inj h)) (congrArg Prod.snd (Option.some.inj h))
    replace h := (if_neg c1).symm.trans h
    by_cases c2 : y1 = (2 : Int32)
    · replace h := (if_pos c2).symm.trans h
      refine lv_tableIn (tgt := 133) C.1 C.2.1 dX11_state_76 (by rw [c2]; decide) (by rw [c2]; decide) (by rw [c2]; rfl) (by decide) ?_
      refine lv_aload_n C.1 C.2.1 dX11_state_133 rfl (lv_at hl 0 rfl) ?_
      refine zr_get C w 40 zm_w_X11 (zw_g40 G _) rfl 15 (by decide) zm_f_X11_32 rfl dX11_state_134 ?_
      refine lv_sipush (v := 280) C.1 C.2.1 dX11_state_137 (by decide) ?_
      refine lv_iload_n C.1 C.2.1 dX11_state_140 rfl (lv_at hl 1 rfl) ?_
      refine lv_iconst (v := 2) C.1 C.2.1 dX11_state_141 (by decide) ?_
      refine lv_isub C.1 C.2.1 dX11_state_142 ?_
      refine lv_imul C.1 C.2.1 dX11_state_143 ?_
      refine lv_iload_n C.1 C.2.1 dX11_state_144 rfl (lv_at hl 2 rfl) ?_
      refine lv_iadd C.1 C.2.1 dX11_state_145 ?_
      refine zr_lald C w 48 (zw_g48 G _) dX11_state_146 h (fun h => ?_)
      refine lv_l2i C.1 C.2.1 dX11_state_147 rfl ?_
      exact zr_reti C w hr dX11_state_148 (congrArg Prod.fst (Option.some.inj h)) (congrArg Prod.snd (Option.some.inj h))
    replace h := (if_neg c2).symm.trans h
    by_cases c3 : y1 = (3 : Int32)
    · replace h := (if_pos c3).symm.trans h
      refine lv_tableIn (tgt := 133) C.1 C.2.1 dX11_state_76 (by rw [c3]; decide) (by rw [c3]; decide) (by rw [c3]; rfl) (by decide) ?_
      refine lv_aload_n C.1 C.2.1 dX11_state_133 rfl (lv_at hl 0 rfl) ?_
      refine zr_get C w 40 zm_w_X11 (zw_g40 G _) rfl 15 (by decide) zm_f_X11_32 rfl dX11_state_134 ?_
      refine lv_sipush (v := 280) C.1 C.2.1 dX11_state_137 (by decide) ?_
      refine lv_iload_n C.1 C.2.1 dX11_state_140 rfl (lv_at hl 1 rfl) ?_
      refine lv_iconst (v := 2) C.1 C.2.1 dX11_state_141 (by decide) ?_
      refine lv_isub C.1 C.2.1 dX11_state_142 ?_
      refine lv_imul C.1 C.2.1 dX11_state_143 ?_
      refine lv_iload_n C.1 C.2.1 dX11_state_144 rfl (lv_at hl 2 rfl) ?_
      refine lv_iadd C.1 C.2.1 dX11_state_145 ?_
      refine zr_lald C w 48 (zw_g48 G _) dX11_state_146 h (fun h => ?_)
      refine lv_l2i C.1 C.2.1 dX11_state_147 rfl ?_
      exact zr_reti C w hr dX11_state_148 (congrArg Prod.fst (Option.some.inj h)) (congrArg Prod.snd (Option.some.inj h))
    replace h := (if_neg c3).symm.trans h
    by_cases c4 : y1 = (4 : Int32)
    · replace h := (if_pos c4).symm.trans h
      refine lv_tableIn (tgt := 149) C.1 C.2.1 dX11_state_76 (by rw [c4]; decide) (by rw [c4]; decide) (by rw [c4]; rfl) (by decide) ?_
      refine lv_aload_n C.1 C.2.1 dX11_state_149 rfl (lv_at hl 0 rfl) ?_
      refine zr_get C w 40 zm_w_X11 (zw_g40 G _) rfl 13 (by decide) zm_f_X11_26 rfl dX11_state_150 ?_
      refine lv_iload_n C.1 C.2.1 dX11_state_153 rfl (lv_at hl 2 rfl) ?_
      refine lv_iconst (v := 1) C.1 C.2.1 dX11_state_154 (by decide) ?_
      refine lv_iadd C.1 C.2.1 dX11_state_155 ?_
      refine zr_lald C w 46 (zw_g46 G _) dX11_state_156 h (fun h => ?_)
      refine lv_l2i C.1 C.2.1 dX11_state_157 rfl ?_
      exact zr_reti C w hr dX11_state_158 (congrArg Prod.fst (Option.some.inj h)) (congrArg Prod.snd (Option.some.inj h))
    replace h := (if_neg c4).symm.trans h
    by_cases c5 : y1 = (5 : Int32)
    · replace h := (if_pos c5).symm.trans h
      refine lv_tableIn (tgt := 159) C.1 C.2.1 dX11_state_76 (by rw [c5]; decide) (by rw [c5]; decide) (by rw [c5]; rfl) (by decide) ?_
      refine lv_aload_n C.1 C.2.1 dX11_state_159 rfl (lv_at hl 0 rfl) ?_
      refine zr_get C w 40 zm_w_X11 (zw_g40 G _) rfl 14 (by decide) zm_f_X11_29 rfl dX11_state_160 ?_
      refine lv_iload_n C.1 C.2.1 dX11_state_163 rfl (lv_at hl 2 rfl) ?_
      refine zr_lald C w 47 (zw_g47 G _) dX11_state_164 h (fun h => ?_)
      refine lv_l2i C.1 C.2.1 dX11_state_165 rfl ?_
      exact zr_reti C w hr dX11_state_166 (congrArg Prod.fst (Option.some.inj h)) (congrArg Prod.snd (Option.some.inj h))
    replace h := (if_neg c5).symm.trans h
    by_cases c6 : y1 = (6 : Int32)
    · replace h := (if_pos c6).symm.trans h
      refine lv_tableIn (tgt := 167) C.1 C.2.1 dX11_state_76 (by rw [c6]; decide) (by rw [c6]; decide) (by rw [c6]; rfl) (by decide) ?_
      refine lv_iload_n C.1 C.2.1 dX11_state_167 rfl (lv_at hl 2 rfl) ?_
      refine zr_if_ne (tgt := 178) C dX11_state_168 (by decide) h (fun h => ?_) (fun h => ?_)
      · refine lv_iload_n C.1 C.2.1 dX11_state_178 rfl (lv_at hl 2 rfl) ?_
        refine lv_iconst (v := 1) C.1 C.2.1 dX11_state_179 (by decide) ?_
        refine zr_ic_ne (tgt := 190) C dX11_state_180 (by decide) h (fun h => ?_) (fun h => ?_)
        · refine lv_aload_n C.1 C.2.1 dX11_state_190 rfl (lv_at hl 0 rfl) ?_
          refine zr_get C w 40 zm_w_X11 (zw_g40 G _) rfl 11 (by decide) zm_f_X11_119 rfl dX11_state_191 ?_
          refine lv_l2i C.1 C.2.1 dX11_state_194 rfl ?_
          exact zr_reti C w hr dX11_state_195 (congrArg Prod.fst (Option.some.inj h)) (congrArg Prod.snd (Option.some.inj h))
        · refine lv_aload_n C.1 C.2.1 dX11_state_183 rfl (lv_at hl 0 rfl) ?_
          refine zr_get C w 40 zm_w_X11 (zw_g40 G _) rfl 10 (by decide) zm_f_X11_107 rfl dX11_state_184 ?_
          refine lv_goto (tgt := 194) C.1 C.2.1 dX11_state_187 (by decide) ?_
          refine lv_l2i C.1 C.2.1 dX11_state_194 rfl ?_
          exact zr_reti C w hr dX11_state_195 (congrArg Prod.fst (Option.some.inj h)) (congrArg Prod.snd (Option.some.inj h))
      · refine lv_aload_n C.1 C.2.1 dX11_state_171 rfl (lv_at hl 0 rfl) ?_
        refine zr_get C w 40 zm_w_X11 (zw_g40 G _) rfl 9 (by decide) zm_f_X11_101 rfl dX11_state_172 ?_
        refine lv_goto (tgt := 194) C.1 C.2.1 dX11_state_175 (by decide) ?_
        refine lv_l2i C.1 C.2.1 dX11_state_194 rfl ?_
        exact zr_reti C w hr dX11_state_195 (congrArg Prod.fst (Option.some.inj h)) (congrArg Prod.snd (Option.some.inj h))
    replace h := (if_neg c6).symm.trans h
    refine lv_tableOut (tgt := 196) C.1 C.2.1 dX11_state_76 (by have q0 := lv_neT (a := 0) c0 rfl; have q1 := lv_neT (a := 1) c1 rfl; have q2 := lv_neT (a := 2) c2 rfl; have q3 := lv_neT (a := 3) c3 rfl; have q4 := lv_neT (a := 4) c4 rfl; have q5 := lv_neT (a := 5) c5 rfl; have q6 := lv_neT (a := 6) c6 rfl; omega) (by decide) ?_
    refine lv_iload_n C.1 C.2.1 dX11_state_196 rfl (lv_at hl 2 rfl) ?_
    refine zr_if_ne (tgt := 207) C dX11_state_197 (by decide) h (fun h => ?_) (fun h => ?_)
    · refine lv_aload_n C.1 C.2.1 dX11_state_207 rfl (lv_at hl 0 rfl) ?_
      refine zr_get C w 40 zm_w_X11 (zw_g40 G _) rfl 17 (by decide) zm_f_X11_249 rfl dX11_state_208 ?_
      refine lv_l2i C.1 C.2.1 dX11_state_211 rfl ?_
      exact zr_reti C w hr dX11_state_212 (congrArg Prod.fst (Option.some.inj h)) (congrArg Prod.snd (Option.some.inj h))
    · refine lv_aload_n C.1 C.2.1 dX11_state_200 rfl (lv_at hl 0 rfl) ?_
      refine zr_get C w 40 zm_w_X11 (zw_g40 G _) rfl 16 (by decide) zm_f_X11_35 rfl dX11_state_201 ?_
      refine lv_goto (tgt := 212) C.1 C.2.1 dX11_state_204 (by decide) ?_
      exact zr_reti C w hr dX11_state_212 (congrArg Prod.fst (Option.some.inj h)) (congrArg Prod.snd (Option.some.inj h))
  · refine lv_iconst (v := 0) C.1 C.2.1 dX11_state_73 (by decide) ?_
    exact zr_reti C w hr dX11_state_74 (congrArg Prod.fst (Option.some.inj h)) (congrArg Prod.snd (Option.some.inj h))
set_option maxHeartbeats 4000000 in
set_option maxRecDepth 100000 in
theorem zq_X11_state_62 {p : Program} {l : Launch} {e : Env} {s : State} {m : MethodId} {args : Array Value} {below : List Frame} {meth : Method} {c : Code} {G : zg_T} (hr : meth.sig.returnType = (some .int)) (C : zx_C p s m args meth c G RX11 cX11_state 4) (r : Int32) (S1 : zs_T) (S : zs_T) (y1 : Int32) (y2 : Int32) (h : zj_X11_state_62 S y1 y2 = some (r, S1)) (H : Heap) (locs : List Loc) (ls : Array Slot) (w : zg_W G S s H locs) (hl : lv_has ls 4 [(0, .ref (zg_q G 40)), (1, .int y1), (2, .int y2)]) : W p l e zr_m_X11_state s m args below meth c H locs 0 0 (MQ below (zg_Q G (some (.int r)) S1) args s 0 0 (zg_A G)) (F0 m 62 ls [.ref (zg_q G 40)]) := by
  unfold zj_X11_state_62 at h
  refine lv_iconst (v := 1) C.1 C.2.1 dX11_state_62 (by decide) ?_
  refine lv_goto (tgt := 67) C.1 C.2.1 dX11_state_63 (by decide) ?_
  exact zq_X11_state_67 hr C _ _ _ _ _ _ h _ _ _ w (lv_sub hl [0, 1, 2] rfl)
set_option maxHeartbeats 4000000 in
set_option maxRecDepth 100000 in
theorem zq_X11_state_51 {p : Program} {l : Launch} {e : Env} {s : State} {m : MethodId} {args : Array Value} {below : List Frame} {meth : Method} {c : Code} {G : zg_T} (hr : meth.sig.returnType = (some .int)) (C : zx_C p s m args meth c G RX11 cX11_state 4) (r : Int32) (S1 : zs_T) (S : zs_T) (y1 : Int32) (y2 : Int32) (z0 : Int32) (h : zj_X11_state_51 S y1 y2 z0 = some (r, S1)) (H : Heap) (locs : List Loc) (ls : Array Slot) (w : zg_W G S s H locs) (hl : lv_has ls 4 [(0, .ref (zg_q G 40)), (1, .int y1), (2, .int y2)]) : W p l e zr_m_X11_state s m args below meth c H locs 0 0 (MQ below (zg_Q G (some (.int r)) S1) args s 0 0 (zg_A G)) (F0 m 51 ls [.int z0]) := by
  unfold zj_X11_state_51 at h
  refine lv_istore_n (lv' := [(3, .int z0), (0, .ref (zg_q G 40)), (1, .int y1), (2, .int y2)]) C.1 C.2.1 dX11_state_51 rfl hl (by decide) rfl (fun ls hl => ?_)
  refine lv_aload_n C.1 C.2.1 dX11_state_52 rfl (lv_at hl 1 rfl) ?_
  refine lv_iload_n C.1 C.2.1 dX11_state_53 rfl (lv_at hl 3 rfl) ?_
  refine zr_if_lt (tgt := 62) C dX11_state_54 (by decide) h (fun h => ?_) (fun h => ?_)
  · exact zq_X11_state_62 hr C _ _ _ _ _ h _ _ _ w (lv_sub hl [1, 2, 3] rfl)
  · refine lv_iload_n C.1 C.2.1 dX11_state_57 rfl (lv_at hl 3 rfl) ?_
    refine lv_iload_n C.1 C.2.1 dX11_state_58 rfl (lv_at hl 0 rfl) ?_
    refine zr_ic_lt (tgt := 66) C dX11_state_59 (by decide) h (fun h => ?_) (fun h => ?_)
    · refine lv_iconst (v := 0) C.1 C.2.1 dX11_state_66 (by decide) ?_
      exact zq_X11_state_67 hr C _ _ _ _ _ _ h _ _ _ w (lv_sub hl [1, 2, 3] rfl)
    · exact zq_X11_state_62 hr C _ _ _ _ _ h _ _ _ w (lv_sub hl [1, 2, 3] rfl)
set_option maxHeartbeats 4000000 in
set_option maxRecDepth 100000 in
theorem zq_X11_state_10 {p : Program} {l : Launch} {e : Env} {s : State} {m : MethodId} {args : Array Value} {below : List Frame} {meth : Method} {c : Code} {G : zg_T} (hr : meth.sig.returnType = (some .int)) (C : zx_C p s m args meth c G RX11 cX11_state 4) (r : Int32) (S1 : zs_T) (S : zs_T) (y1 : Int32) (y2 : Int32) (h : zj_X11_state_10 S y1 y2 = some (r, S1)) (H : Heap) (locs : List Loc) (ls : Array Slot) (w : zg_W G S s H locs) (hl : lv_has ls 4 [(0, .ref (zg_q G 40)), (1, .int y1), (2, .int y2)]) : W p l e zr_m_X11_state s m args below meth c H locs 0 0 (MQ below (zg_Q G (some (.int r)) S1) args s 0 0 (zg_A G)) (F0 m 10 ls []) := by
  unfold zj_X11_state_10 at h
  refine lv_iconst (v := 0) C.1 C.2.1 dX11_state_10 (by decide) ?_
  refine lv_goto (tgt := 51) C.1 C.2.1 dX11_state_11 (by decide) ?_
  exact zq_X11_state_51 hr C _ _ _ _ _ _ h _ _ _ w (lv_sub hl [0, 1, 2] rfl)
set_option maxHeartbeats 4000000 in
set_option maxRecDepth 100000 in
theorem zq_X11_state_24 {p : Program} {l : Launch} {e : Env} {s : State} {m : MethodId} {args : Array Value} {below : List Frame} {meth : Method} {c : Code} {G : zg_T} (hr : meth.sig.returnType = (some .int)) (C : zx_C p s m args meth c G RX11 cX11_state 4) (r : Int32) (S1 : zs_T) (S : zs_T) (y1 : Int32) (y2 : Int32) (h : zj_X11_state_24 S y1 y2 = some (r, S1)) (H : Heap) (locs : List Loc) (ls : Array Slot) (w : zg_W G S s H locs) (hl : lv_has ls 4 [(0, .ref (zg_q G 40)), (1, .int y1), (2, .int y2)]) : W p l e zr_m_X11_state s m args below meth c H locs 0 0 (MQ below (zg_Q G (some (.int r)) S1) args s 0 0 (zg_A G)) (F0 m 24 ls []) := by
  unfold zj_X11_state_24 at h
  refine lv_bipush (v := 120) C.1 C.2.1 dX11_state_24 (by decide) ?_
  refine lv_goto (tgt := 51) C.1 C.2.1 dX11_state_26 (by decide) ?_
  exact zq_X11_state_51 hr C _ _ _ _ _ _ h _ _ _ w (lv_sub hl [0, 1, 2] rfl)
set_option maxHeartbeats 4000000 in
set_option maxRecDepth 100000 in
theorem zm_X11_state (l : Launch) (G : zg_T) (S : zs_T) (a1 : Int32) (a2 : Int32) (r : Int32) (S1 : zs_T) (h : zf_X11_state S a1 a2 = some (r, S1)) : Met l yX11_state (Cond.code yX11_state cX11_state 4 (some .int) :: zt_G) zr_m_X11_state (va_Pc [.ref (zg_q G 40), .int a1, .int a2] (zg_P G S)) (zg_Q G (some (.int r)) S1) 0 0 (zg_A G) := by
  refine zx_met (by decide +kernel) (Nat.le_of_ble_eq_true rfl) (lv := [(0, .ref (zg_q G 40)), (1, .int a1), (2, .int a2)]) rfl ?_
  intro p e s m below meth c C hr w ls hl
  replace C : zx_C p s m _ meth c G RX11 cX11_state 4 := C
  unfold zf_X11_state at h
  refine lv_iload_n C.1 C.2.1 dX11_state_0 rfl (lv_at hl 1 rfl) ?_
  refine zr_if_lt (tgt := 10) C dX11_state_1 (by decide) h (fun h => ?_) (fun h => ?_)
  · exact zq_X11_state_10 hr C _ _ _ _ _ h _ _ _ w (lv_sub hl [0, 1, 2] rfl)
  · refine lv_iload_n C.1 C.2.1 dX11_state_4 rfl (lv_at hl 1 rfl) ?_
    refine lv_bipush (v := 7) C.1 C.2.1 dX11_state_5 (by decide) ?_
    refine zr_ic_le (tgt := 14) C dX11_state_7 (by decide) h (fun h => ?_) (fun h => ?_)
    · refine lv_iload_n C.1 C.2.1 dX11_state_14 rfl (lv_at hl 1 rfl) ?_
      refine lv_iconst (v := 2) C.1 C.2.1 dX11_state_15 (by decide) ?_
      refine zr_ic_eq (tgt := 24) C dX11_state_16 (by decide) h (fun h => ?_) (fun h => ?_)
      · exact zq_X11_state_24 hr C _ _ _ _ _ h _ _ _ w (lv_sub hl [0, 1, 2] rfl)
      · refine lv_iload_n C.1 C.2.1 dX11_state_19 rfl (lv_at hl 1 rfl) ?_
        refine lv_iconst (v := 3) C.1 C.2.1 dX11_state_20 (by decide) ?_
        refine zr_ic_ne (tgt := 29) C dX11_state_21 (by decide) h (fun h => ?_) (fun h => ?_)
        · refine lv_iload_n C.1 C.2.1 dX11_state_29 rfl (lv_at hl 1 rfl) ?_
          refine lv_bipush (v := 6) C.1 C.2.1 dX11_state_30 (by decide) ?_
          refine zr_ic_ne (tgt := 39) C dX11_state_32 (by decide) h (fun h => ?_) (fun h => ?_)
          · refine lv_iload_n C.1 C.2.1 dX11_state_39 rfl (lv_at hl 1 rfl) ?_
            refine lv_bipush (v := 7) C.1 C.2.1 dX11_state_40 (by decide) ?_
            refine zr_ic_ne (tgt := 49) C dX11_state_42 (by decide) h (fun h => ?_) (fun h => ?_)
            · refine lv_bipush (v := 8) C.1 C.2.1 dX11_state_49 (by decide) ?_
              exact zq_X11_state_51 hr C _ _ _ _ _ _ h _ _ _ w (lv_sub hl [0, 1, 2] rfl)
            · refine lv_iconst (v := 2) C.1 C.2.1 dX11_state_45 (by decide) ?_
              refine lv_goto (tgt := 51) C.1 C.2.1 dX11_state_46 (by decide) ?_
              exact zq_X11_state_51 hr C _ _ _ _ _ _ h _ _ _ w (lv_sub hl [0, 1, 2] rfl)
          · refine lv_iconst (v := 3) C.1 C.2.1 dX11_state_35 (by decide) ?_
            refine lv_goto (tgt := 51) C.1 C.2.1 dX11_state_36 (by decide) ?_
            exact zq_X11_state_51 hr C _ _ _ _ _ _ h _ _ _ w (lv_sub hl [0, 1, 2] rfl)
        · exact zq_X11_state_24 hr C _ _ _ _ _ h _ _ _ w (lv_sub hl [0, 1, 2] rfl)
    · exact zq_X11_state_10 hr C _ _ _ _ _ h _ _ _ w (lv_sub hl [0, 1, 2] rfl)
set_option maxHeartbeats 4000000 in
set_option maxRecDepth 100000 in
theorem zq_X11_about_15 {p : Program} {l : Launch} {e : Env} {s : State} {m : MethodId} {args : Array Value} {below : List Frame} {meth : Method} {c : Code} {G : zg_T} (hr : meth.sig.returnType = (some .int)) (C : zx_C p s m args meth c G RX11 cX11_about 2) (r : Int32) (S1 : zs_T) (S : zs_T) (y1 : Int32) (z0 : Int32) (h : zj_X11_about_15 S y1 z0 = some (r, S1)) (H : Heap) (locs : List Loc) (ls : Array Slot) (w : zg_W G S s H locs) (hl : lv_has ls 2 [(0, .ref (zg_q G 40)), (1, .int y1)]) : W p l e zr_m_X11_about s m args below meth c H locs 0 0 (MQ below (zg_Q G (some (.int r)) S1) args s 0 0 (zg_A G)) (F0 m 15 ls [.int z0, .ref (zg_q G 40)]) := by
  unfold zj_X11_about_15 at h
  obtain ⟨v1, S2, hc, h⟩ := zc_b2_x h
  refine zr_callVi C w 40 (zw_g40 G _) rfl (As := [.int z0]) (zm_X11_refuses l G _ _ _ _ hc) zm_c_X11_refuses zm_l_X11_91 zm_i_X11_refuses zm_e_X11_refuses zm_0_X11 zm_d_X11_refuses ⟨rfl, rfl⟩ ⟨Nat.le_of_ble_eq_true rfl, Nat.le_of_ble_eq_true rfl⟩ hl.1 rfl rfl (Nat.le_of_ble_eq_true rfl) dX11_about_15 ⟨Nat.le_of_ble_eq_true rfl, Nat.le_of_ble_eq_true rfl⟩ (fun H locs w => ?_)
  clear hc
  refine zr_if_eq (tgt := 23) C dX11_about_18 (by decide) h (fun h => ?_) (fun h => ?_)
  · refine lv_iload_n C.1 C.2.1 dX11_about_23 rfl (lv_at hl 1 rfl) ?_
    refine zr_if_ne (tgt := 34) C dX11_about_24 (by decide) h (fun h => ?_) (fun h => ?_)
    · refine lv_iload_n C.1 C.2.1 dX11_about_34 rfl (lv_at hl 1 rfl) ?_
      refine lv_iconst (v := 1) C.1 C.2.1 dX11_about_35 (by decide) ?_
      refine zr_ic_ne (tgt := 46) C dX11_about_36 (by decide) h (fun h => ?_) (fun h => ?_)
      · refine lv_iload_n C.1 C.2.1 dX11_about_46 rfl (lv_at hl 1 rfl) ?_
        refine lv_iconst (v := 2) C.1 C.2.1 dX11_about_47 (by decide) ?_
        refine zr_ic_ne (tgt := 58) C dX11_about_48 (by decide) h (fun h => ?_) (fun h => ?_)
        · refine lv_aload_n C.1 C.2.1 dX11_about_58 rfl (lv_at hl 0 rfl) ?_
          refine zr_get C w 40 zm_w_X11 (zw_g40 G _) rfl 8 (by decide) zm_f_X11_254 rfl dX11_about_59 ?_
          exact zr_reti C w hr dX11_about_62 (congrArg Prod.fst (Option.some.inj h)) (congrArg Prod.snd (Option.some.inj h))
        · refine lv_aload_n C.1 C.2.1 dX11_about_51 rfl (lv_at hl 0 rfl) ?_
          refine zr_get C w 40 zm_w_X11 (zw_g40 G _) rfl 7 (by decide) zm_f_X11_238 rfl dX11_about_52 ?_
          refine lv_goto (tgt := 62) C.1 C.2.1 dX11_about_55 (by decide) ?_
          exact zr_reti C w hr dX11_about_62 (congrArg Prod.fst (Option.some.inj h)) (congrArg Prod.snd (Option.some.inj h))
      · refine lv_aload_n C.1 C.2.1 dX11_about_39 rfl (lv_at hl 0 rfl) ?_
        refine zr_get C w 40 zm_w_X11 (zw_g40 G _) rfl 3 (by decide) zm_f_X11_241 rfl dX11_about_40 ?_
        refine lv_goto (tgt := 62) C.1 C.2.1 dX11_about_43 (by decide) ?_
        exact zr_reti C w hr dX11_about_62 (congrArg Prod.fst (Option.some.inj h)) (congrArg Prod.snd (Option.some.inj h))
    · refine lv_aload_n C.1 C.2.1 dX11_about_27 rfl (lv_at hl 0 rfl) ?_
      refine zr_get C w 40 zm_w_X11 (zw_g40 G _) rfl 1 (by decide) zm_f_X11_88 rfl dX11_about_28 ?_
      refine lv_goto (tgt := 62) C.1 C.2.1 dX11_about_31 (by decide) ?_
      exact zr_reti C w hr dX11_about_62 (congrArg Prod.fst (Option.some.inj h)) (congrArg Prod.snd (Option.some.inj h))
  · refine lv_iconst (v := 0) C.1 C.2.1 dX11_about_21 (by decide) ?_
    exact zr_reti C w hr dX11_about_22 (congrArg Prod.fst (Option.some.inj h)) (congrArg Prod.snd (Option.some.inj h))
set_option maxHeartbeats 4000000 in
set_option maxRecDepth 100000 in
theorem zq_X11_about_10 {p : Program} {l : Launch} {e : Env} {s : State} {m : MethodId} {args : Array Value} {below : List Frame} {meth : Method} {c : Code} {G : zg_T} (hr : meth.sig.returnType = (some .int)) (C : zx_C p s m args meth c G RX11 cX11_about 2) (r : Int32) (S1 : zs_T) (S : zs_T) (y1 : Int32) (h : zj_X11_about_10 S y1 = some (r, S1)) (H : Heap) (locs : List Loc) (ls : Array Slot) (w : zg_W G S s H locs) (hl : lv_has ls 2 [(0, .ref (zg_q G 40)), (1, .int y1)]) : W p l e zr_m_X11_about s m args below meth c H locs 0 0 (MQ below (zg_Q G (some (.int r)) S1) args s 0 0 (zg_A G)) (F0 m 10 ls [.ref (zg_q G 40)]) := by
  unfold zj_X11_about_10 at h
  refine lv_iconst (v := 1) C.1 C.2.1 dX11_about_10 (by decide) ?_
  refine lv_goto (tgt := 15) C.1 C.2.1 dX11_about_11 (by decide) ?_
  exact zq_X11_about_15 hr C _ _ _ _ _ h _ _ _ w (lv_sub hl [0, 1] rfl)
set_option maxHeartbeats 4000000 in
set_option maxRecDepth 100000 in
theorem zm_X11_about (l : Launch) (G : zg_T) (S : zs_T) (a1 : Int32) (r : Int32) (S1 : zs_T) (h : zf_X11_about S a1 = some (r, S1)) : Met l yX11_about (Cond.code yX11_about cX11_about 2 (some .int) :: zt_G) zr_m_X11_about (va_Pc [.ref (zg_q G 40), .int a1] (zg_P G S)) (zg_Q G (some (.int r)) S1) 0 0 (zg_A G) := by
  refine zx_met (by decide +kernel) (Nat.le_of_ble_eq_true rfl) (lv := [(0, .ref (zg_q G 40)), (1, .int a1)]) rfl ?_
  intro p e s m below meth c C hr w ls hl
  replace C : zx_C p s m _ meth c G RX11 cX11_about 2 := C
  unfold zf_X11_about at h
  refine lv_aload_n C.1 C.2.1 dX11_about_0 rfl (lv_at hl 0 rfl) ?_
  refine lv_iload_n C.1 C.2.1 dX11_about_1 rfl (lv_at hl 1 rfl) ?_
  refine zr_if_lt (tgt := 10) C dX11_about_2 (by decide) h (fun h => ?_) (fun h => ?_)
  · exact zq_X11_about_10 hr C _ _ _ _ h _ _ _ w (lv_sub hl [0, 1] rfl)
  · refine lv_iload_n C.1 C.2.1 dX11_about_5 rfl (lv_at hl 1 rfl) ?_
    refine lv_iconst (v := 3) C.1 C.2.1 dX11_about_6 (by decide) ?_
    refine zr_ic_le (tgt := 14) C dX11_about_7 (by decide) h (fun h => ?_) (fun h => ?_)
    · refine lv_iconst (v := 0) C.1 C.2.1 dX11_about_14 (by decide) ?_
      exact zq_X11_about_15 hr C _ _ _ _ _ h _ _ _ w (lv_sub hl [0, 1] rfl)
    · exact zq_X11_about_10 hr C _ _ _ _ h _ _ _ w (lv_sub hl [0, 1] rfl)
