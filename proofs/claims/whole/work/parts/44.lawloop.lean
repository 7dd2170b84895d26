set_option maxHeartbeats 4000000 in
set_option maxRecDepth 100000 in
theorem zk_L_law {p : Program} {l : Launch} {e : Env} {s : State} {m : MethodId} {below : List Frame} {meth : Method} {c : Code} {G : zg_T} (hst : l.stackTraces = false) {bb L : Nat} {xs : Nat → Int32} (C : zx_C p s m #[.ref bb] meth c G RL code 7) (hX : va_X bb L xs s s.heap) (hbl : bb < s.heap.size) (hbA : ¬ zg_A G bb) {Q : State → Prop} (oS : zs_T) (kont : ∀ (H : Heap) (locs : List Loc) (ls : Array Slot) (cs sl : Nat), cs ≤ 1096 → sl ≤ 11559 → zg_W G oS s H locs → W p l e room_1 s m #[.ref bb] below meth c H locs cs sl Q (F0 m 709 ls [])) : ∀ (n : Nat) (S : zs_T) (x4 : Int32) (cs sl : Nat), cs + n ≤ 1096 → sl + 6 * n ≤ 11559 → zl_2 (zb_L_law xs L) n S x4 = some oS → ∀ (H : Heap) (locs : List Loc) (ls : Array Slot), zg_W G S s H locs → lv_has ls 7 [(0, .ref bb), (1, .ref (zg_q G 0)), (2, .ref (zg_q G 40)), (3, .ref (zg_q G 59)), (4, .int x4)] → W p l e room_1 s m #[.ref bb] below meth c H locs cs sl Q (F0 m 23 ls []) := by
  intro n
  induction n with
  | zero => intro S x4 cs sl _ _ h; cases h
  | succ n ih =>
    intro S x4 cs sl hcs hsl h H locs ls w hl
    replace h : zb_L_law xs L (zl_2 (zb_L_law xs L) n) S x4 = some oS := h
    generalize zl_2 (zb_L_law xs L) n = rec at ih h
    unfold zb_L_law at h
    refine lv_iload C.1 C.2.1 dL_law_23 (lv_at hl 4 rfl) ?_
    refine lv_aload_n C.1 C.2.1 dL_law_25 rfl (lv_at hl 0 rfl) ?_
    refine va_slen C.1 C.2.1 hX hbl hbA w.2.2 dL_law_26 ?_
    refine lv_iconst (v := 4) C.1 C.2.1 dL_law_27 (by decide) ?_
    refine lv_isub C.1 C.2.1 dL_law_28 ?_
    refine zr_ic_gt (tgt := 709) C dL_law_29 (by decide) h (fun h => ?_) (fun h => ?_)
    · cases h
      exact kont _ _ _ _ _ (by omega) (by omega) w
    · refine lv_aload_n C.1 C.2.1 dL_law_32 rfl (lv_at hl 0 rfl) ?_
      refine lv_iload C.1 C.2.1 dL_law_33 (lv_at hl 4 rfl) ?_
      obtain ⟨n_, h⟩ := zc_gi_x h
      refine va_sld C.1 C.2.1 hX hbl hbA w.2.2 n_ dL_law_35 ?_
      refine lv_bipush (v := 15) C.1 C.2.1 dL_law_36 (by decide) ?_
      refine lv_iand C.1 C.2.1 dL_law_38 ?_
      refine zr_lti h (fun v1 h => ?_)
      by_cases c0 : v1 = (0 : Int32)
      · replace h := (if_pos c0).symm.trans h
        refine lv_tableIn (tgt := 100) C.1 C.2.1 dL_law_39 (by rw [c0]; decide) (by rw [c0]; decide) (by rw [c0]; rfl) (by decide) ?_
        refine lv_aload_n C.1 C.2.1 dL_law_100 rfl (lv_at hl 1 rfl) ?_
        refine lv_aload_n C.1 C.2.1 dL_law_101 rfl (lv_at hl 0 rfl) ?_
        refine lv_iload C.1 C.2.1 dL_law_102 (lv_at hl 4 rfl) ?_
        refine lv_iconst (v := 1) C.1 C.2.1 dL_law_104 (by decide) ?_
        refine lv_iadd C.1 C.2.1 dL_law_105 ?_
        obtain ⟨n_, h⟩ := zc_gi_x h
        refine va_sld C.1 C.2.1 hX hbl hbA w.2.2 n_ dL_law_106 ?_
        refine lv_aload_n C.1 C.2.1 dL_law_107 rfl (lv_at hl 3 rfl) ?_
        obtain ⟨k2, r3, S4, hc, h⟩ := zc_b3_x h
        obtain ⟨n_, h⟩ := zc_k3_x h
        refine zr_callW C w (As := [.ref (zg_q G 0), .int (xs (Int32.toNatClampNeg (x4 + (1 : Int32)))), .ref (zg_q G 59)]) (zm_L_put l hst G _ _ _ _ _ n_ hc) zm_c_L_put zm_l_L_50 zm_s_L_put zm_0_L zm_d_L_put ⟨rfl, rfl⟩ ⟨Nat.le_of_ble_eq_true rfl, Nat.le_of_ble_eq_true rfl⟩ hl.1 rfl rfl (Nat.le_of_ble_eq_true rfl) dL_law_108 ⟨by show _ ≤ 1096; omega, by show _ ≤ 11559; omega⟩ (fun H locs w => ?_)
        refine zr_ltS h w (fun S5 w h => ?_)
        clear hc
        refine lv_istore (lv' := [(5, .int k2), (0, .ref bb), (1, .ref (zg_q G 0)), (2, .ref (zg_q G 40)), (3, .ref (zg_q G 59)), (4, .int x4)]) C.1 C.2.1 dL_law_111 hl (by decide) rfl (fun ls hl => ?_)
        refine lv_aload_n C.1 C.2.1 dL_law_113 rfl (lv_at hl 3 rfl) ?_
        refine lv_aload_n C.1 C.2.1 dL_law_114 rfl (lv_at hl 1 rfl) ?_
        refine lv_iload C.1 C.2.1 dL_law_115 (lv_at hl 5 rfl) ?_
        refine lv_iconst (v := 1) C.1 C.2.1 dL_law_117 (by decide) ?_
        refine lv_iadd C.1 C.2.1 dL_law_118 ?_
        obtain ⟨n_, h⟩ := zc_gi_x h
        refine va_sld C.1 C.2.1 hX hbl hbA w.2.2 n_ dL_law_119 ?_
        obtain ⟨v6, S7, hc, h⟩ := zc_b2_x h
        refine zr_callVi C w 40 (zw_g40 G _) rfl (As := [.int (xs (Int32.toNatClampNeg (x4 + (1 : Int32))))]) (zm_X11_put l G _ _ _ _ hc) zm_c_X11_put zm_l_L_55 zm_i_X11_put zm_e_X11_put zm_0_X11 zm_d_X11_put ⟨rfl, rfl⟩ ⟨Nat.le_of_ble_eq_true rfl, Nat.le_of_ble_eq_true rfl⟩ hl.1 rfl rfl (Nat.le_of_ble_eq_true rfl) dL_law_120 ⟨by show _ ≤ 1096; omega, by show _ ≤ 11559; omega⟩ (fun H locs w => ?_)
        clear hc
        refine lv_istore (lv' := [(6, .int v6), (5, .int k2), (0, .ref bb), (1, .ref (zg_q G 0)), (2, .ref (zg_q G 40)), (3, .ref (zg_q G 59)), (4, .int x4)]) C.1 C.2.1 dL_law_123 hl (by decide) rfl (fun ls hl => ?_)
        refine lv_aload_n C.1 C.2.1 dL_law_125 rfl (lv_at hl 4 rfl) ?_
        obtain ⟨v8, hc, h⟩ := zc_b1_x h
        refine zr_callVi C w 40 (zw_g40 G _) rfl (As := []) (zm_X11_thrown l G _ _ hc) zm_c_X11_thrown zm_l_L_56 zm_i_X11_thrown zm_e_X11_thrown zm_0_X11 zm_d_X11_thrown ⟨rfl, rfl⟩ ⟨Nat.le_of_ble_eq_true rfl, Nat.le_of_ble_eq_true rfl⟩ hl.1 rfl rfl (Nat.le_of_ble_eq_true rfl) dL_law_126 ⟨by show _ ≤ 1096; omega, by show _ ≤ 11559; omega⟩ (fun H locs w => ?_)
        clear hc
        refine lv_iload C.1 C.2.1 dL_law_129 (lv_at hl 1 rfl) ?_
        refine zr_ic_eq (tgt := 136) C dL_law_131 (by decide) h (fun h => ?_) (fun h => ?_)
        · refine lv_iload C.1 C.2.1 dL_law_136 (lv_at hl 1 rfl) ?_
          refine zr_if_ne (tgt := 153) C dL_law_138 (by decide) h (fun h => ?_) (fun h => ?_)
          · refine lv_goto (tgt := 703) C.1 C.2.1 dL_law_153 (by decide) ?_
            obtain ⟨v9, e_, h⟩ := zc_lt_x h
            refine lv_iinc (v := v9) (lv' := [(4, .int v9), (6, .int v6), (5, .int k2), (0, .ref bb), (1, .ref (zg_q G 0)), (2, .ref (zg_q G 40)), (3, .ref (zg_q G 59))]) C.1 C.2.1 dL_law_703 hl (k := 6) rfl (by subst e_; rfl) (by decide) rfl (fun ls hl => ?_)
            clear e_
            refine lv_goto (tgt := 23) C.1 C.2.1 dL_law_706 (by decide) ?_
            exact ih _ _ _ _ (by omega) (by omega) h _ _ _ w (lv_sub hl [3, 4, 5, 6, 0] rfl)
          · refine lv_aload_n C.1 C.2.1 dL_law_141 rfl (lv_at hl 5 rfl) ?_
            refine lv_iconst (v := 0) C.1 C.2.1 dL_law_142 (by decide) ?_
            refine zr_lald C w 59 (zw_g59 G _) dL_law_143 h (fun h => ?_)
            refine lv_iload C.1 C.2.1 dL_law_144 (lv_at hl 0 rfl) ?_
            refine lv_i2l C.1 C.2.1 dL_law_146 rfl ?_
            refine zr_lc_eq (tgt := 153) C dL_law_147 dL_law_148 (by decide) h (fun h => ?_) (fun h => ?_)
            · refine lv_goto (tgt := 703) C.1 C.2.1 dL_law_153 (by decide) ?_
              obtain ⟨v10, e_, h⟩ := zc_lt_x h
              refine lv_iinc (v := v10) (lv' := [(4, .int v10), (6, .int v6), (5, .int k2), (0, .ref bb), (1, .ref (zg_q G 0)), (2, .ref (zg_q G 40)), (3, .ref (zg_q G 59))]) C.1 C.2.1 dL_law_703 hl (k := 6) rfl (by subst e_; rfl) (by decide) rfl (fun ls hl => ?_)
              clear e_
              refine lv_goto (tgt := 23) C.1 C.2.1 dL_law_706 (by decide) ?_
              exact ih _ _ _ _ (by omega) (by omega) h _ _ _ w (lv_sub hl [3, 4, 5, 6, 0] rfl)
            · refine lv_iconst (v := 0) C.1 C.2.1 dL_law_151 (by decide) ?_
              cases h
        · refine lv_iconst (v := 0) C.1 C.2.1 dL_law_134 (by decide) ?_
          cases h
      replace h := (if_neg c0).symm.trans h
      by_cases c1 : v1 = (1 : Int32)
      · replace h := (if_pos c1).symm.trans h
        refine lv_tableIn (tgt := 156) C.1 C.2.1 dL_law_39 (by rw [c1]; decide) (by rw [c1]; decide) (by rw [c1]; rfl) (by decide) ?_
        refine lv_aload_n C.1 C.2.1 dL_law_156 rfl (lv_at hl 1 rfl) ?_
        refine lv_aload_n C.1 C.2.1 dL_law_157 rfl (lv_at hl 0 rfl) ?_
        refine lv_iload C.1 C.2.1 dL_law_158 (lv_at hl 4 rfl) ?_
        refine lv_iconst (v := 1) C.1 C.2.1 dL_law_160 (by decide) ?_
        refine lv_iadd C.1 C.2.1 dL_law_161 ?_
        obtain ⟨n_, h⟩ := zc_gi_x h
        refine va_sld C.1 C.2.1 hX hbl hbA w.2.2 n_ dL_law_162 ?_
        refine lv_aload_n C.1 C.2.1 dL_law_163 rfl (lv_at hl 0 rfl) ?_
        refine lv_iload C.1 C.2.1 dL_law_164 (lv_at hl 4 rfl) ?_
        refine lv_iconst (v := 2) C.1 C.2.1 dL_law_166 (by decide) ?_
        refine lv_iadd C.1 C.2.1 dL_law_167 ?_
        obtain ⟨n_, h⟩ := zc_gi_x h
        refine va_sld C.1 C.2.1 hX hbl hbA w.2.2 n_ dL_law_168 ?_
        refine lv_aload_n C.1 C.2.1 dL_law_169 rfl (lv_at hl 0 rfl) ?_
        refine lv_iload C.1 C.2.1 dL_law_170 (lv_at hl 4 rfl) ?_
        refine lv_iconst (v := 3) C.1 C.2.1 dL_law_172 (by decide) ?_
        refine lv_iadd C.1 C.2.1 dL_law_173 ?_
        obtain ⟨n_, h⟩ := zc_gi_x h
        refine va_sld C.1 C.2.1 hX hbl hbA w.2.2 n_ dL_law_174 ?_
        refine lv_aload_n C.1 C.2.1 dL_law_175 rfl (lv_at hl 3 rfl) ?_
        obtain ⟨k11, r12, S13, hc, h⟩ := zc_b3_x h
        obtain ⟨n_, h⟩ := zc_k3_x h
        refine zr_callW C w (As := [.ref (zg_q G 0), .int (xs (Int32.toNatClampNeg (x4 + (1 : Int32)))), .int (xs (Int32.toNatClampNeg (x4 + (2 : Int32)))), .int (xs (Int32.toNatClampNeg (x4 + (3 : Int32)))), .ref (zg_q G 59)]) (zm_L_fill l hst G _ _ _ _ _ _ _ n_ hc) zm_c_L_fill zm_l_L_59 zm_s_L_fill zm_0_L zm_d_L_fill ⟨rfl, rfl⟩ ⟨Nat.le_of_ble_eq_true rfl, Nat.le_of_ble_eq_true rfl⟩ hl.1 rfl rfl (Nat.le_of_ble_eq_true rfl) dL_law_176 ⟨by show _ ≤ 1096; omega, by show _ ≤ 11559; omega⟩ (fun H locs w => ?_)
        refine zr_ltS h w (fun S14 w h => ?_)
        clear hc
        refine lv_istore (lv' := [(5, .int k11), (0, .ref bb), (1, .ref (zg_q G 0)), (2, .ref (zg_q G 40)), (3, .ref (zg_q G 59)), (4, .int x4)]) C.1 C.2.1 dL_law_179 hl (by decide) rfl (fun ls hl => ?_)
        refine lv_aload_n C.1 C.2.1 dL_law_181 rfl (lv_at hl 3 rfl) ?_
        refine lv_aload_n C.1 C.2.1 dL_law_182 rfl (lv_at hl 1 rfl) ?_
        refine lv_iload C.1 C.2.1 dL_law_183 (lv_at hl 5 rfl) ?_
        refine lv_iconst (v := 1) C.1 C.2.1 dL_law_185 (by decide) ?_
        refine lv_iadd C.1 C.2.1 dL_law_186 ?_
        obtain ⟨n_, h⟩ := zc_gi_x h
        refine va_sld C.1 C.2.1 hX hbl hbA w.2.2 n_ dL_law_187 ?_
        refine lv_aload_n C.1 C.2.1 dL_law_188 rfl (lv_at hl 1 rfl) ?_
        refine lv_iload C.1 C.2.1 dL_law_189 (lv_at hl 5 rfl) ?_
        refine lv_iconst (v := 2) C.1 C.2.1 dL_law_191 (by decide) ?_
        refine lv_iadd C.1 C.2.1 dL_law_192 ?_
        obtain ⟨n_, h⟩ := zc_gi_x h
        refine va_sld C.1 C.2.1 hX hbl hbA w.2.2 n_ dL_law_193 ?_
        refine lv_aload_n C.1 C.2.1 dL_law_194 rfl (lv_at hl 1 rfl) ?_
        refine lv_iload C.1 C.2.1 dL_law_195 (lv_at hl 5 rfl) ?_
        refine lv_iconst (v := 3) C.1 C.2.1 dL_law_197 (by decide) ?_
        refine lv_iadd C.1 C.2.1 dL_law_198 ?_
        obtain ⟨n_, h⟩ := zc_gi_x h
        refine va_sld C.1 C.2.1 hX hbl hbA w.2.2 n_ dL_law_199 ?_
        obtain ⟨v15, S16, hc, h⟩ := zc_b2_x h
        refine zr_callVi C w 40 (zw_g40 G _) rfl (As := [.int (xs (Int32.toNatClampNeg (x4 + (1 : Int32)))), .int (xs (Int32.toNatClampNeg (x4 + (2 : Int32)))), .int (xs (Int32.toNatClampNeg (x4 + (3 : Int32))))]) (zm_X11_fill l G _ _ _ _ _ _ hc) zm_c_X11_fill zm_l_L_62 zm_i_X11_fill zm_e_X11_fill zm_0_X11 zm_d_X11_fill ⟨rfl, rfl⟩ ⟨Nat.le_of_ble_eq_true rfl, Nat.le_of_ble_eq_true rfl⟩ hl.1 rfl rfl (Nat.le_of_ble_eq_true rfl) dL_law_200 ⟨by show _ ≤ 1096; omega, by show _ ≤ 11559; omega⟩ (fun H locs w => ?_)
        clear hc
        refine lv_istore (lv' := [(6, .int v15), (5, .int k11), (0, .ref bb), (1, .ref (zg_q G 0)), (2, .ref (zg_q G 40)), (3, .ref (zg_q G 59)), (4, .int x4)]) C.1 C.2.1 dL_law_203 hl (by decide) rfl (fun ls hl => ?_)
        refine lv_aload_n C.1 C.2.1 dL_law_205 rfl (lv_at hl 4 rfl) ?_
        obtain ⟨v17, hc, h⟩ := zc_b1_x h
        refine zr_callVi C w 40 (zw_g40 G _) rfl (As := []) (zm_X11_thrown l G _ _ hc) zm_c_X11_thrown zm_l_L_56 zm_i_X11_thrown zm_e_X11_thrown zm_0_X11 zm_d_X11_thrown ⟨rfl, rfl⟩ ⟨Nat.le_of_ble_eq_true rfl, Nat.le_of_ble_eq_true rfl⟩ hl.1 rfl rfl (Nat.le_of_ble_eq_true rfl) dL_law_206 ⟨by show _ ≤ 1096; omega, by show _ ≤ 11559; omega⟩ (fun H locs w => ?_)
        clear hc
        refine lv_iload C.1 C.2.1 dL_law_209 (lv_at hl 1 rfl) ?_
        refine zr_ic_eq (tgt := 216) C dL_law_211 (by decide) h (fun h => ?_) (fun h => ?_)
        · refine lv_iload C.1 C.2.1 dL_law_216 (lv_at hl 1 rfl) ?_
          refine zr_if_ne (tgt := 233) C dL_law_218 (by decide) h (fun h => ?_) (fun h => ?_)
          · refine lv_goto (tgt := 703) C.1 C.2.1 dL_law_233 (by decide) ?_
            obtain ⟨v18, e_, h⟩ := zc_lt_x h
            refine lv_iinc (v := v18) (lv' := [(4, .int v18), (6, .int v15), (5, .int k11), (0, .ref bb), (1, .ref (zg_q G 0)), (2, .ref (zg_q G 40)), (3, .ref (zg_q G 59))]) C.1 C.2.1 dL_law_703 hl (k := 6) rfl (by subst e_; rfl) (by decide) rfl (fun ls hl => ?_)
            clear e_
            refine lv_goto (tgt := 23) C.1 C.2.1 dL_law_706 (by decide) ?_
            exact ih _ _ _ _ (by omega) (by omega) h _ _ _ w (lv_sub hl [3, 4, 5, 6, 0] rfl)
          · refine lv_aload_n C.1 C.2.1 dL_law_221 rfl (lv_at hl 5 rfl) ?_
            refine lv_iconst (v := 0) C.1 C.2.1 dL_law_222 (by decide) ?_
            refine zr_lald C w 59 (zw_g59 G _) dL_law_223 h (fun h => ?_)
            refine lv_iload C.1 C.2.1 dL_law_224 (lv_at hl 0 rfl) ?_
            refine lv_i2l C.1 C.2.1 dL_law_226 rfl ?_
            refine zr_lc_eq (tgt := 233) C dL_law_227 dL_law_228 (by decide) h (fun h => ?_) (fun h => ?_)
            · refine lv_goto (tgt := 703) C.1 C.2.1 dL_law_233 (by decide) ?_
              obtain ⟨v19, e_, h⟩ := zc_lt_x h
              refine lv_iinc (v := v19) (lv' := [(4, .int v19), (6, .int v15), (5, .int k11), (0, .ref bb), (1, .ref (zg_q G 0)), (2, .ref (zg_q G 40)), (3, .ref (zg_q G 59))]) C.1 C.2.1 dL_law_703 hl (k := 6) rfl (by subst e_; rfl) (by decide) rfl (fun ls hl => ?_)
              clear e_
              refine lv_goto (tgt := 23) C.1 C.2.1 dL_law_706 (by decide) ?_
              exact ih _ _ _ _ (by omega) (by omega) h _ _ _ w (lv_sub hl [3, 4, 5, 6, 0] rfl)
            · refine lv_iconst (v := 0) C.1 C.2.1 dL_law_231 (by decide) ?_
              cases h
        · refine lv_iconst (v := 0) C.1 C.2.1 dL_law_214 (by decide) ?_
          cases h
      replace h := (if_neg c1).symm.trans h
      by_cases c2 : v1 = (2 : Int32)
      · replace h := (if_pos c2).symm.trans h
        refine lv_tableIn (tgt := 236) C.1 C.2.1 dL_law_39 (by rw [c2]; decide) (by rw [c2]; decide) (by rw [c2]; rfl) (by decide) ?_
        refine lv_aload_n C.1 C.2.1 dL_law_236 rfl (lv_at hl 1 rfl) ?_
        refine lv_aload_n C.1 C.2.1 dL_law_237 rfl (lv_at hl 3 rfl) ?_
        obtain ⟨k20, r21, S22, hc, h⟩ := zc_b3_x h
        obtain ⟨n_, h⟩ := zc_k2_x h
        refine zr_callW C w (As := [.ref (zg_q G 0), .ref (zg_q G 59)]) (zm_L_encode l hst G _ _ _ _ n_ hc) zm_c_L_encode zm_l_L_63 zm_s_L_encode zm_0_L zm_d_L_encode ⟨rfl, rfl⟩ ⟨Nat.le_of_ble_eq_true rfl, Nat.le_of_ble_eq_true rfl⟩ hl.1 rfl rfl (Nat.le_of_ble_eq_true rfl) dL_law_238 ⟨by show _ ≤ 1096; omega, by show _ ≤ 11559; omega⟩ (fun H locs w => ?_)
        refine zr_ltS h w (fun S23 w h => ?_)
        clear hc
        refine zr_lti h (fun v24 h => ?_)
        refine lv_istore (lv' := [(5, .int v24), (0, .ref bb), (1, .ref (zg_q G 0)), (2, .ref (zg_q G 40)), (3, .ref (zg_q G 59)), (4, .int x4)]) C.1 C.2.1 dL_law_241 hl (by decide) rfl (fun ls hl => ?_)
        refine lv_aload_n C.1 C.2.1 dL_law_243 rfl (lv_at hl 3 rfl) ?_
        obtain ⟨v25, S26, hc, h⟩ := zc_b2_x h
        refine zr_callVi C w 40 (zw_g40 G _) rfl (As := []) (zm_X11_encode l G _ _ _ hc) zm_c_X11_encode zm_l_L_66 zm_i_X11_encode zm_e_X11_encode zm_0_X11 zm_d_X11_encode ⟨rfl, rfl⟩ ⟨Nat.le_of_ble_eq_true rfl, Nat.le_of_ble_eq_true rfl⟩ hl.1 rfl rfl (Nat.le_of_ble_eq_true rfl) dL_law_244 ⟨by show _ ≤ 1096; omega, by show _ ≤ 11559; omega⟩ (fun H locs w => ?_)
        clear hc
        refine lv_istore (lv' := [(6, .int v25), (5, .int v24), (0, .ref bb), (1, .ref (zg_q G 0)), (2, .ref (zg_q G 40)), (3, .ref (zg_q G 59)), (4, .int x4)]) C.1 C.2.1 dL_law_247 hl (by decide) rfl (fun ls hl => ?_)
        refine lv_aload_n C.1 C.2.1 dL_law_249 rfl (lv_at hl 4 rfl) ?_
        obtain ⟨v27, hc, h⟩ := zc_b1_x h
        refine zr_callVi C w 40 (zw_g40 G _) rfl (As := []) (zm_X11_thrown l G _ _ hc) zm_c_X11_thrown zm_l_L_56 zm_i_X11_thrown zm_e_X11_thrown zm_0_X11 zm_d_X11_thrown ⟨rfl, rfl⟩ ⟨Nat.le_of_ble_eq_true rfl, Nat.le_of_ble_eq_true rfl⟩ hl.1 rfl rfl (Nat.le_of_ble_eq_true rfl) dL_law_250 ⟨by show _ ≤ 1096; omega, by show _ ≤ 11559; omega⟩ (fun H locs w => ?_)
        clear hc
        refine lv_iload C.1 C.2.1 dL_law_253 (lv_at hl 1 rfl) ?_
        refine zr_ic_eq (tgt := 260) C dL_law_255 (by decide) h (fun h => ?_) (fun h => ?_)
        · refine lv_iload C.1 C.2.1 dL_law_260 (lv_at hl 1 rfl) ?_
          refine zr_if_ne (tgt := 277) C dL_law_262 (by decide) h (fun h => ?_) (fun h => ?_)
          · refine lv_goto (tgt := 703) C.1 C.2.1 dL_law_277 (by decide) ?_
            obtain ⟨v28, e_, h⟩ := zc_lt_x h
            refine lv_iinc (v := v28) (lv' := [(4, .int v28), (6, .int v25), (5, .int v24), (0, .ref bb), (1, .ref (zg_q G 0)), (2, .ref (zg_q G 40)), (3, .ref (zg_q G 59))]) C.1 C.2.1 dL_law_703 hl (k := 6) rfl (by subst e_; rfl) (by decide) rfl (fun ls hl => ?_)
            clear e_
            refine lv_goto (tgt := 23) C.1 C.2.1 dL_law_706 (by decide) ?_
            exact ih _ _ _ _ (by omega) (by omega) h _ _ _ w (lv_sub hl [3, 4, 5, 6, 0] rfl)
          · refine lv_aload_n C.1 C.2.1 dL_law_265 rfl (lv_at hl 5 rfl) ?_
            refine lv_iconst (v := 0) C.1 C.2.1 dL_law_266 (by decide) ?_
            refine zr_lald C w 59 (zw_g59 G _) dL_law_267 h (fun h => ?_)
            refine lv_iload C.1 C.2.1 dL_law_268 (lv_at hl 0 rfl) ?_
            refine lv_i2l C.1 C.2.1 dL_law_270 rfl ?_
            refine zr_lc_eq (tgt := 277) C dL_law_271 dL_law_272 (by decide) h (fun h => ?_) (fun h => ?_)
            · refine lv_goto (tgt := 703) C.1 C.2.1 dL_law_277 (by decide) ?_
              obtain ⟨v29, e_, h⟩ := zc_lt_x h
              refine lv_iinc (v := v29) (lv' := [(4, .int v29), (6, .int v25), (5, .int v24), (0, .ref bb), (1, .ref (zg_q G 0)), (2, .ref (zg_q G 40)), (3, .ref (zg_q G 59))]) C.1 C.2.1 dL_law_703 hl (k := 6) rfl (by subst e_; rfl) (by decide) rfl (fun ls hl => ?_)
              clear e_
              refine lv_goto (tgt := 23) C.1 C.2.1 dL_law_706 (by decide) ?_
              exact ih _ _ _ _ (by omega) (by omega) h _ _ _ w (lv_sub hl [3, 4, 5, 6, 0] rfl)
            · refine lv_iconst (v := 0) C.1 C.2.1 dL_law_275 (by decide) ?_
              cases h
        · refine lv_iconst (v := 0) C.1 C.2.1 dL_law_258 (by decide) ?_
          cases h
      replace h := (if_neg c2).symm.trans h
      by_cases c3 : v1 = (3 : Int32)
      · replace h := (if_pos c3).symm.trans h
        refine lv_tableIn (tgt := 280) C.1 C.2.1 dL_law_39 (by rw [c3]; decide) (by rw [c3]; decide) (by rw [c3]; rfl) (by decide) ?_
        refine lv_aload_n C.1 C.2.1 dL_law_280 rfl (lv_at hl 1 rfl) ?_
        refine lv_aload_n C.1 C.2.1 dL_law_281 rfl (lv_at hl 0 rfl) ?_
        refine lv_iload C.1 C.2.1 dL_law_282 (lv_at hl 4 rfl) ?_
        refine lv_iconst (v := 1) C.1 C.2.1 dL_law_284 (by decide) ?_
        refine lv_iadd C.1 C.2.1 dL_law_285 ?_
        obtain ⟨n_, h⟩ := zc_gi_x h
        refine va_sld C.1 C.2.1 hX hbl hbA w.2.2 n_ dL_law_286 ?_
        refine lv_aload_n C.1 C.2.1 dL_law_287 rfl (lv_at hl 3 rfl) ?_
        obtain ⟨k30, r31, S32, hc, h⟩ := zc_b3_x h
        obtain ⟨n_, h⟩ := zc_k1_x h
        refine zr_callW C w (As := [.ref (zg_q G 0), .int (xs (Int32.toNatClampNeg (x4 + (1 : Int32)))), .ref (zg_q G 59)]) (zm_L_parameter l hst G _ _ _ _ _ n_ hc) zm_c_L_parameter zm_l_L_67 zm_s_L_parameter zm_0_L zm_d_L_parameter ⟨rfl, rfl⟩ ⟨Nat.le_of_ble_eq_true rfl, Nat.le_of_ble_eq_true rfl⟩ hl.1 rfl rfl (Nat.le_of_ble_eq_true rfl) dL_law_288 ⟨by show _ ≤ 1096; omega, by show _ ≤ 11559; omega⟩ (fun H locs w => ?_)
        refine zr_ltS h w (fun S33 w h => ?_)
        clear hc
        refine lv_istore (lv' := [(5, .int k30), (0, .ref bb), (1, .ref (zg_q G 0)), (2, .ref (zg_q G 40)), (3, .ref (zg_q G 59)), (4, .int x4)]) C.1 C.2.1 dL_law_291 hl (by decide) rfl (fun ls hl => ?_)
        refine lv_aload_n C.1 C.2.1 dL_law_293 rfl (lv_at hl 3 rfl) ?_
        refine lv_aload_n C.1 C.2.1 dL_law_294 rfl (lv_at hl 1 rfl) ?_
        refine lv_iload C.1 C.2.1 dL_law_295 (lv_at hl 5 rfl) ?_
        refine lv_iconst (v := 1) C.1 C.2.1 dL_law_297 (by decide) ?_
        refine lv_iadd C.1 C.2.1 dL_law_298 ?_
        obtain ⟨n_, h⟩ := zc_gi_x h
        refine va_sld C.1 C.2.1 hX hbl hbA w.2.2 n_ dL_law_299 ?_
        obtain ⟨v34, S35, hc, h⟩ := zc_b2_x h
        refine zr_callVi C w 40 (zw_g40 G _) rfl (As := [.int (xs (Int32.toNatClampNeg (x4 + (1 : Int32))))]) (zm_X11_parameter l G _ _ _ _ hc) zm_c_X11_parameter zm_l_L_69 zm_i_X11_parameter zm_e_X11_parameter zm_0_X11 zm_d_X11_parameter ⟨rfl, rfl⟩ ⟨Nat.le_of_ble_eq_true rfl, Nat.le_of_ble_eq_true rfl⟩ hl.1 rfl rfl (Nat.le_of_ble_eq_true rfl) dL_law_300 ⟨by show _ ≤ 1096; omega, by show _ ≤ 11559; omega⟩ (fun H locs w => ?_)
        clear hc
        refine lv_istore (lv' := [(6, .int v34), (5, .int k30), (0, .ref bb), (1, .ref (zg_q G 0)), (2, .ref (zg_q G 40)), (3, .ref (zg_q G 59)), (4, .int x4)]) C.1 C.2.1 dL_law_303 hl (by decide) rfl (fun ls hl => ?_)
        refine lv_aload_n C.1 C.2.1 dL_law_305 rfl (lv_at hl 4 rfl) ?_
        obtain ⟨v36, hc, h⟩ := zc_b1_x h
        refine zr_callVi C w 40 (zw_g40 G _) rfl (As := []) (zm_X11_thrown l G _ _ hc) zm_c_X11_thrown zm_l_L_56 zm_i_X11_thrown zm_e_X11_thrown zm_0_X11 zm_d_X11_thrown ⟨rfl, rfl⟩ ⟨Nat.le_of_ble_eq_true rfl, Nat.le_of_ble_eq_true rfl⟩ hl.1 rfl rfl (Nat.le_of_ble_eq_true rfl) dL_law_306 ⟨by show _ ≤ 1096; omega, by show _ ≤ 11559; omega⟩ (fun H locs w => ?_)
        clear hc
        refine lv_iload C.1 C.2.1 dL_law_309 (lv_at hl 1 rfl) ?_
        refine zr_ic_eq (tgt := 316) C dL_law_311 (by decide) h (fun h => ?_) (fun h => ?_)
        · refine lv_iload C.1 C.2.1 dL_law_316 (lv_at hl 1 rfl) ?_
          refine zr_if_ne (tgt := 333) C dL_law_318 (by decide) h (fun h => ?_) (fun h => ?_)
          · refine lv_goto (tgt := 703) C.1 C.2.1 dL_law_333 (by decide) ?_
            obtain ⟨v37, e_, h⟩ := zc_lt_x h
            refine lv_iinc (v := v37) (lv' := [(4, .int v37), (6, .int v34), (5, .int k30), (0, .ref bb), (1, .ref (zg_q G 0)), (2, .ref (zg_q G 40)), (3, .ref (zg_q G 59))]) C.1 C.2.1 dL_law_703 hl (k := 6) rfl (by subst e_; rfl) (by decide) rfl (fun ls hl => ?_)
            clear e_
            refine lv_goto (tgt := 23) C.1 C.2.1 dL_law_706 (by decide) ?_
            exact ih _ _ _ _ (by omega) (by omega) h _ _ _ w (lv_sub hl [3, 4, 5, 6, 0] rfl)
          · refine lv_aload_n C.1 C.2.1 dL_law_321 rfl (lv_at hl 5 rfl) ?_
            refine lv_iconst (v := 0) C.1 C.2.1 dL_law_322 (by decide) ?_
            refine zr_lald C w 59 (zw_g59 G _) dL_law_323 h (fun h => ?_)
            refine lv_iload C.1 C.2.1 dL_law_324 (lv_at hl 0 rfl) ?_
            refine lv_i2l C.1 C.2.1 dL_law_326 rfl ?_
            refine zr_lc_eq (tgt := 333) C dL_law_327 dL_law_328 (by decide) h (fun h => ?_) (fun h => ?_)
            · refine lv_goto (tgt := 703) C.1 C.2.1 dL_law_333 (by decide) ?_
              obtain ⟨v38, e_, h⟩ := zc_lt_x h
              refine lv_iinc (v := v38) (lv' := [(4, .int v38), (6, .int v34), (5, .int k30), (0, .ref bb), (1, .ref (zg_q G 0)), (2, .ref (zg_q G 40)), (3, .ref (zg_q G 59))]) C.1 C.2.1 dL_law_703 hl (k := 6) rfl (by subst e_; rfl) (by decide) rfl (fun ls hl => ?_)
              clear e_
              refine lv_goto (tgt := 23) C.1 C.2.1 dL_law_706 (by decide) ?_
              exact ih _ _ _ _ (by omega) (by omega) h _ _ _ w (lv_sub hl [3, 4, 5, 6, 0] rfl)
            · refine lv_iconst (v := 0) C.1 C.2.1 dL_law_331 (by decide) ?_
              cases h
        · refine lv_iconst (v := 0) C.1 C.2.1 dL_law_314 (by decide) ?_
          cases h
      replace h := (if_neg c3).symm.trans h
      by_cases c4 : v1 = (4 : Int32)
      · replace h := (if_pos c4).symm.trans h
        refine lv_tableIn (tgt := 336) C.1 C.2.1 dL_law_39 (by rw [c4]; decide) (by rw [c4]; decide) (by rw [c4]; rfl) (by decide) ?_
        refine lv_aload_n C.1 C.2.1 dL_law_336 rfl (lv_at hl 1 rfl) ?_
        refine lv_aload_n C.1 C.2.1 dL_law_337 rfl (lv_at hl 0 rfl) ?_
        refine lv_iload C.1 C.2.1 dL_law_338 (lv_at hl 4 rfl) ?_
        refine lv_iconst (v := 1) C.1 C.2.1 dL_law_340 (by decide) ?_
        refine lv_iadd C.1 C.2.1 dL_law_341 ?_
        obtain ⟨n_, h⟩ := zc_gi_x h
        refine va_sld C.1 C.2.1 hX hbl hbA w.2.2 n_ dL_law_342 ?_
        refine lv_i2l C.1 C.2.1 dL_law_343 rfl ?_
        refine lv_bipush (v := 32) C.1 C.2.1 dL_law_344 (by decide) ?_
        refine lv_lshl C.1 C.2.1 dL_law_346 rfl ?_
        refine lv_aload_n C.1 C.2.1 dL_law_347 rfl (lv_at hl 0 rfl) ?_
        refine lv_iload C.1 C.2.1 dL_law_348 (lv_at hl 4 rfl) ?_
        refine lv_iconst (v := 2) C.1 C.2.1 dL_law_350 (by decide) ?_
        refine lv_iadd C.1 C.2.1 dL_law_351 ?_
        obtain ⟨n_, h⟩ := zc_gi_x h
        refine va_sld C.1 C.2.1 hX hbl hbA w.2.2 n_ dL_law_352 ?_
        refine lv_i2l C.1 C.2.1 dL_law_353 rfl ?_
        refine lv_ldc2 (v := 4294967295) C.1 C.2.1 C.2.2.2.1 (C.2.2.2.2.1 _ zm_k_L_70) dL_law_354 ?_
        refine lv_land C.1 C.2.1 dL_law_357 ?_
        refine lv_lor C.1 C.2.1 dL_law_358 ?_
        refine lv_aload_n C.1 C.2.1 dL_law_359 rfl (lv_at hl 0 rfl) ?_
        refine lv_iload C.1 C.2.1 dL_law_360 (lv_at hl 4 rfl) ?_
        refine lv_iconst (v := 3) C.1 C.2.1 dL_law_362 (by decide) ?_
        refine lv_iadd C.1 C.2.1 dL_law_363 ?_
        obtain ⟨n_, h⟩ := zc_gi_x h
        refine va_sld C.1 C.2.1 hX hbl hbA w.2.2 n_ dL_law_364 ?_
        refine lv_aload_n C.1 C.2.1 dL_law_365 rfl (lv_at hl 3 rfl) ?_
        obtain ⟨k39, r40, S41, hc, h⟩ := zc_b3_x h
        obtain ⟨n_, h⟩ := zc_k3_x h
        refine zr_callW C w (As := [.ref (zg_q G 0), .long (((Int32.toInt64 (xs (Int32.toNatClampNeg (x4 + (1 : Int32))))) <<< (Int32.toInt64 (32 : Int32) &&& 63)) ||| ((Int32.toInt64 (xs (Int32.toNatClampNeg (x4 + (2 : Int32))))) &&& (4294967295 : Int64))), .int (xs (Int32.toNatClampNeg (x4 + (3 : Int32)))), .ref (zg_q G 59)]) (zm_L_feed l hst G _ _ _ _ _ _ n_ hc) zm_c_L_feed zm_l_L_72 zm_s_L_feed zm_0_L zm_d_L_feed ⟨rfl, rfl⟩ ⟨Nat.le_of_ble_eq_true rfl, Nat.le_of_ble_eq_true rfl⟩ hl.1 rfl rfl (Nat.le_of_ble_eq_true rfl) dL_law_366 ⟨by show _ ≤ 1096; omega, by show _ ≤ 11559; omega⟩ (fun H locs w => ?_)
        refine zr_ltS h w (fun S42 w h => ?_)
        clear hc
        refine lv_istore (lv' := [(5, .int k39), (0, .ref bb), (1, .ref (zg_q G 0)), (2, .ref (zg_q G 40)), (3, .ref (zg_q G 59)), (4, .int x4)]) C.1 C.2.1 dL_law_369 hl (by decide) rfl (fun ls hl => ?_)
        refine lv_aload_n C.1 C.2.1 dL_law_371 rfl (lv_at hl 3 rfl) ?_
        refine lv_aload_n C.1 C.2.1 dL_law_372 rfl (lv_at hl 1 rfl) ?_
        refine lv_iload C.1 C.2.1 dL_law_373 (lv_at hl 5 rfl) ?_
        refine lv_iconst (v := 1) C.1 C.2.1 dL_law_375 (by decide) ?_
        refine lv_iadd C.1 C.2.1 dL_law_376 ?_
        obtain ⟨n_, h⟩ := zc_gi_x h
        refine va_sld C.1 C.2.1 hX hbl hbA w.2.2 n_ dL_law_377 ?_
        refine lv_i2l C.1 C.2.1 dL_law_378 rfl ?_
        refine lv_bipush (v := 32) C.1 C.2.1 dL_law_379 (by decide) ?_
        refine lv_lshl C.1 C.2.1 dL_law_381 rfl ?_
        refine lv_aload_n C.1 C.2.1 dL_law_382 rfl (lv_at hl 1 rfl) ?_
        refine lv_iload C.1 C.2.1 dL_law_383 (lv_at hl 5 rfl) ?_
        refine lv_iconst (v := 2) C.1 C.2.1 dL_law_385 (by decide) ?_
        refine lv_iadd C.1 C.2.1 dL_law_386 ?_
        obtain ⟨n_, h⟩ := zc_gi_x h
        refine va_sld C.1 C.2.1 hX hbl hbA w.2.2 n_ dL_law_387 ?_
        refine lv_i2l C.1 C.2.1 dL_law_388 rfl ?_
        refine lv_ldc2 (v := 4294967295) C.1 C.2.1 C.2.2.2.1 (C.2.2.2.2.1 _ zm_k_L_70) dL_law_389 ?_
        refine lv_land C.1 C.2.1 dL_law_392 ?_
        refine lv_lor C.1 C.2.1 dL_law_393 ?_
        refine lv_aload_n C.1 C.2.1 dL_law_394 rfl (lv_at hl 1 rfl) ?_
        refine lv_iload C.1 C.2.1 dL_law_395 (lv_at hl 5 rfl) ?_
        refine lv_iconst (v := 3) C.1 C.2.1 dL_law_397 (by decide) ?_
        refine lv_iadd C.1 C.2.1 dL_law_398 ?_
        obtain ⟨n_, h⟩ := zc_gi_x h
        refine va_sld C.1 C.2.1 hX hbl hbA w.2.2 n_ dL_law_399 ?_
        obtain ⟨v43, S44, hc, h⟩ := zc_b2_x h
        refine zr_callVi C w 40 (zw_g40 G _) rfl (As := [.long (((Int32.toInt64 (xs (Int32.toNatClampNeg (x4 + (1 : Int32))))) <<< (Int32.toInt64 (32 : Int32) &&& 63)) ||| ((Int32.toInt64 (xs (Int32.toNatClampNeg (x4 + (2 : Int32))))) &&& (4294967295 : Int64))), .int (xs (Int32.toNatClampNeg (x4 + (3 : Int32))))]) (zm_X11_feed l G _ _ _ _ _ hc) zm_c_X11_feed zm_l_L_75 zm_i_X11_feed zm_e_X11_feed zm_0_X11 zm_d_X11_feed ⟨rfl, rfl⟩ ⟨Nat.le_of_ble_eq_true rfl, Nat.le_of_ble_eq_true rfl⟩ hl.1 rfl rfl (Nat.le_of_ble_eq_true rfl) dL_law_400 ⟨by show _ ≤ 1096; omega, by show _ ≤ 11559; omega⟩ (fun H locs w => ?_)
        clear hc
        refine lv_istore (lv' := [(6, .int v43), (5, .int k39), (0, .ref bb), (1, .ref (zg_q G 0)), (2, .ref (zg_q G 40)), (3, .ref (zg_q G 59)), (4, .int x4)]) C.1 C.2.1 dL_law_403 hl (by decide) rfl (fun ls hl => ?_)
        refine lv_aload_n C.1 C.2.1 dL_law_405 rfl (lv_at hl 4 rfl) ?_
        obtain ⟨v45, hc, h⟩ := zc_b1_x h
        refine zr_callVi C w 40 (zw_g40 G _) rfl (As := []) (zm_X11_thrown l G _ _ hc) zm_c_X11_thrown zm_l_L_56 zm_i_X11_thrown zm_e_X11_thrown zm_0_X11 zm_d_X11_thrown ⟨rfl, rfl⟩ ⟨Nat.le_of_ble_eq_true rfl, Nat.le_of_ble_eq_true rfl⟩ hl.1 rfl rfl (Nat.le_of_ble_eq_true rfl) dL_law_406 ⟨by show _ ≤ 1096; omega, by show _ ≤ 11559; omega⟩ (fun H locs w => ?_)
        clear hc
        refine lv_iload C.1 C.2.1 dL_law_409 (lv_at hl 1 rfl) ?_
        refine zr_ic_eq (tgt := 416) C dL_law_411 (by decide) h (fun h => ?_) (fun h => ?_)
        · refine lv_iload C.1 C.2.1 dL_law_416 (lv_at hl 1 rfl) ?_
          refine zr_if_ne (tgt := 433) C dL_law_418 (by decide) h (fun h => ?_) (fun h => ?_)
          · refine lv_goto (tgt := 703) C.1 C.2.1 dL_law_433 (by decide) ?_
            obtain ⟨v46, e_, h⟩ := zc_lt_x h
            refine lv_iinc (v := v46) (lv' := [(4, .int v46), (6, .int v43), (5, .int k39), (0, .ref bb), (1, .ref (zg_q G 0)), (2, .ref (zg_q G 40)), (3, .ref (zg_q G 59))]) C.1 C.2.1 dL_law_703 hl (k := 6) rfl (by subst e_; rfl) (by decide) rfl (fun ls hl => ?_)
            clear e_
            refine lv_goto (tgt := 23) C.1 C.2.1 dL_law_706 (by decide) ?_
            exact ih _ _ _ _ (by omega) (by omega) h _ _ _ w (lv_sub hl [3, 4, 5, 6, 0] rfl)
          · refine lv_aload_n C.1 C.2.1 dL_law_421 rfl (lv_at hl 5 rfl) ?_
            refine lv_iconst (v := 0) C.1 C.2.1 dL_law_422 (by decide) ?_
            refine zr_lald C w 59 (zw_g59 G _) dL_law_423 h (fun h => ?_)
            refine lv_iload C.1 C.2.1 dL_law_424 (lv_at hl 0 rfl) ?_
            refine lv_i2l C.1 C.2.1 dL_law_426 rfl ?_
            refine zr_lc_eq (tgt := 433) C dL_law_427 dL_law_428 (by decide) h (fun h => ?_) (fun h => ?_)
            · refine lv_goto (tgt := 703) C.1 C.2.1 dL_law_433 (by decide) ?_
              obtain ⟨v47, e_, h⟩ := zc_lt_x h
              refine lv_iinc (v := v47) (lv' := [(4, .int v47), (6, .int v43), (5, .int k39), (0, .ref bb), (1, .ref (zg_q G 0)), (2, .ref (zg_q G 40)), (3, .ref (zg_q G 59))]) C.1 C.2.1 dL_law_703 hl (k := 6) rfl (by subst e_; rfl) (by decide) rfl (fun ls hl => ?_)
              clear e_
              refine lv_goto (tgt := 23) C.1 C.2.1 dL_law_706 (by decide) ?_
              exact ih _ _ _ _ (by omega) (by omega) h _ _ _ w (lv_sub hl [3, 4, 5, 6, 0] rfl)
            · refine lv_iconst (v := 0) C.1 C.2.1 dL_law_431 (by decide) ?_
              cases h
        · refine lv_iconst (v := 0) C.1 C.2.1 dL_law_414 (by decide) ?_
          cases h
      replace h := (if_neg c4).symm.trans h
      by_cases c5 : v1 = (5 : Int32)
      · replace h := (if_pos c5).symm.trans h
        refine lv_tableIn (tgt := 436) C.1 C.2.1 dL_law_39 (by rw [c5]; decide) (by rw [c5]; decide) (by rw [c5]; rfl) (by decide) ?_
        refine lv_aload_n C.1 C.2.1 dL_law_436 rfl (lv_at hl 1 rfl) ?_
        obtain ⟨v48, S49, hc, h⟩ := zc_b2_x h
        refine zr_callVi C w 0 (zw_g0 G _) rfl (As := []) (zm_X10_take l G _ _ _ hc) zm_c_X10_take zm_l_L_76 zm_i_X10_take zm_e_X10_take zm_0_X10 zm_d_X10_take ⟨rfl, rfl⟩ ⟨Nat.le_of_ble_eq_true rfl, Nat.le_of_ble_eq_true rfl⟩ hl.1 rfl rfl (Nat.le_of_ble_eq_true rfl) dL_law_437 ⟨by show _ ≤ 1096; omega, by show _ ≤ 11559; omega⟩ (fun H locs w => ?_)
        clear hc
        refine lv_aload_n C.1 C.2.1 dL_law_440 rfl (lv_at hl 2 rfl) ?_
        obtain ⟨v50, S51, hc, h⟩ := zc_b2_x h
        refine zr_callVi C w 40 (zw_g40 G _) rfl (As := []) (zm_X11_take l G _ _ _ hc) zm_c_X11_take zm_l_L_79 zm_i_X11_take zm_e_X11_take zm_0_X11 zm_d_X11_take ⟨rfl, rfl⟩ ⟨Nat.le_of_ble_eq_true rfl, Nat.le_of_ble_eq_true rfl⟩ hl.1 rfl rfl (Nat.le_of_ble_eq_true rfl) dL_law_441 ⟨by show _ ≤ 1096; omega, by show _ ≤ 11559; omega⟩ (fun H locs w => ?_)
        clear hc
        refine zr_ic_eq (tgt := 703) C dL_law_444 (by decide) h (fun h => ?_) (fun h => ?_)
        · obtain ⟨v52, e_, h⟩ := zc_lt_x h
          refine lv_iinc (v := v52) (lv' := [(4, .int v52), (0, .ref bb), (1, .ref (zg_q G 0)), (2, .ref (zg_q G 40)), (3, .ref (zg_q G 59))]) C.1 C.2.1 dL_law_703 hl (k := 4) rfl (by subst e_; rfl) (by decide) rfl (fun ls hl => ?_)
          clear e_
          refine lv_goto (tgt := 23) C.1 C.2.1 dL_law_706 (by decide) ?_
          exact ih _ _ _ _ (by omega) (by omega) h _ _ _ w (lv_sub hl [1, 2, 3, 4, 0] rfl)
        · refine lv_iconst (v := 0) C.1 C.2.1 dL_law_447 (by decide) ?_
          cases h
      replace h := (if_neg c5).symm.trans h
      by_cases c6 : v1 = (6 : Int32)
      · replace h := (if_pos c6).symm.trans h
        refine lv_tableIn (tgt := 449) C.1 C.2.1 dL_law_39 (by rw [c6]; decide) (by rw [c6]; decide) (by rw [c6]; rfl) (by decide) ?_
        refine lv_aload_n C.1 C.2.1 dL_law_449 rfl (lv_at hl 1 rfl) ?_
        obtain ⟨v53, S54, hc, h⟩ := zc_b2_x h
        refine zr_callVi C w 0 (zw_g0 G _) rfl (As := []) (zm_X10_decode l G _ _ _ hc) zm_c_X10_decode zm_l_L_80 zm_i_X10_decode zm_e_X10_decode zm_0_X10 zm_d_X10_decode ⟨rfl, rfl⟩ ⟨Nat.le_of_ble_eq_true rfl, Nat.le_of_ble_eq_true rfl⟩ hl.1 rfl rfl (Nat.le_of_ble_eq_true rfl) dL_law_450 ⟨by show _ ≤ 1096; omega, by show _ ≤ 11559; omega⟩ (fun H locs w => ?_)
        clear hc
        refine lv_aload_n C.1 C.2.1 dL_law_453 rfl (lv_at hl 2 rfl) ?_
        obtain ⟨v55, S56, hc, h⟩ := zc_b2_x h
        refine zr_callVi C w 40 (zw_g40 G _) rfl (As := []) (zm_X11_decode l G _ _ _ hc) zm_c_X11_decode zm_l_L_83 zm_i_X11_decode zm_e_X11_decode zm_0_X11 zm_d_X11_decode ⟨rfl, rfl⟩ ⟨Nat.le_of_ble_eq_true rfl, Nat.le_of_ble_eq_true rfl⟩ hl.1 rfl rfl (Nat.le_of_ble_eq_true rfl) dL_law_454 ⟨by show _ ≤ 1096; omega, by show _ ≤ 11559; omega⟩ (fun H locs w => ?_)
        clear hc
        refine zr_ic_eq (tgt := 703) C dL_law_457 (by decide) h (fun h => ?_) (fun h => ?_)
        · obtain ⟨v57, e_, h⟩ := zc_lt_x h
          refine lv_iinc (v := v57) (lv' := [(4, .int v57), (0, .ref bb), (1, .ref (zg_q G 0)), (2, .ref (zg_q G 40)), (3, .ref (zg_q G 59))]) C.1 C.2.1 dL_law_703 hl (k := 4) rfl (by subst e_; rfl) (by decide) rfl (fun ls hl => ?_)
          clear e_
          refine lv_goto (tgt := 23) C.1 C.2.1 dL_law_706 (by decide) ?_
          exact ih _ _ _ _ (by omega) (by omega) h _ _ _ w (lv_sub hl [1, 2, 3, 4, 0] rfl)
        · refine lv_iconst (v := 0) C.1 C.2.1 dL_law_460 (by decide) ?_
          cases h
      replace h := (if_neg c6).symm.trans h
      by_cases c7 : v1 = (7 : Int32)
      · replace h := (if_pos c7).symm.trans h
        refine lv_tableIn (tgt := 462) C.1 C.2.1 dL_law_39 (by rw [c7]; decide) (by rw [c7]; decide) (by rw [c7]; rfl) (by decide) ?_
        refine lv_aload_n C.1 C.2.1 dL_law_462 rfl (lv_at hl 1 rfl) ?_
        refine lv_aload_n C.1 C.2.1 dL_law_463 rfl (lv_at hl 0 rfl) ?_
        refine lv_iload C.1 C.2.1 dL_law_464 (lv_at hl 4 rfl) ?_
        refine lv_iconst (v := 1) C.1 C.2.1 dL_law_466 (by decide) ?_
        refine lv_iadd C.1 C.2.1 dL_law_467 ?_
        obtain ⟨n_, h⟩ := zc_gi_x h
        refine va_sld C.1 C.2.1 hX hbl hbA w.2.2 n_ dL_law_468 ?_
        obtain ⟨v58, hc, h⟩ := zc_b1_x h
        refine zr_callVi C w 0 (zw_g0 G _) rfl (As := [.int (xs (Int32.toNatClampNeg (x4 + (1 : Int32))))]) (zm_X10_hand l G _ _ _ hc) zm_c_X10_hand zm_l_L_84 zm_i_X10_hand zm_e_X10_hand zm_0_X10 zm_d_X10_hand ⟨rfl, rfl⟩ ⟨Nat.le_of_ble_eq_true rfl, Nat.le_of_ble_eq_true rfl⟩ hl.1 rfl rfl (Nat.le_of_ble_eq_true rfl) dL_law_469 ⟨by show _ ≤ 1096; omega, by show _ ≤ 11559; omega⟩ (fun H locs w => ?_)
        clear hc
        refine lv_aload_n C.1 C.2.1 dL_law_472 rfl (lv_at hl 2 rfl) ?_
        refine lv_aload_n C.1 C.2.1 dL_law_473 rfl (lv_at hl 0 rfl) ?_
        refine lv_iload C.1 C.2.1 dL_law_474 (lv_at hl 4 rfl) ?_
        refine lv_iconst (v := 1) C.1 C.2.1 dL_law_476 (by decide) ?_
        refine lv_iadd C.1 C.2.1 dL_law_477 ?_
        obtain ⟨n_, h⟩ := zc_gi_x h
        refine va_sld C.1 C.2.1 hX hbl hbA w.2.2 n_ dL_law_478 ?_
        obtain ⟨v59, S60, hc, h⟩ := zc_b2_x h
        refine zr_callVi C w 40 (zw_g40 G _) rfl (As := [.int (xs (Int32.toNatClampNeg (x4 + (1 : Int32))))]) (zm_X11_hand l G _ _ _ _ hc) zm_c_X11_hand zm_l_L_87 zm_i_X11_hand zm_e_X11_hand zm_0_X11 zm_d_X11_hand ⟨rfl, rfl⟩ ⟨Nat.le_of_ble_eq_true rfl, Nat.le_of_ble_eq_true rfl⟩ hl.1 rfl rfl (Nat.le_of_ble_eq_true rfl) dL_law_479 ⟨by show _ ≤ 1096; omega, by show _ ≤ 11559; omega⟩ (fun H locs w => ?_)
        clear hc
        refine zr_ic_eq (tgt := 703) C dL_law_482 (by decide) h (fun h => ?_) (fun h => ?_)
        · obtain ⟨v61, e_, h⟩ := zc_lt_x h
          refine lv_iinc (v := v61) (lv' := [(4, .int v61), (0, .ref bb), (1, .ref (zg_q G 0)), (2, .ref (zg_q G 40)), (3, .ref (zg_q G 59))]) C.1 C.2.1 dL_law_703 hl (k := 4) rfl (by subst e_; rfl) (by decide) rfl (fun ls hl => ?_)
          clear e_
          refine lv_goto (tgt := 23) C.1 C.2.1 dL_law_706 (by decide) ?_
          exact ih _ _ _ _ (by omega) (by omega) h _ _ _ w (lv_sub hl [1, 2, 3, 4, 0] rfl)
        · refine lv_iconst (v := 0) C.1 C.2.1 dL_law_485 (by decide) ?_
          cases h
      replace h := (if_neg c7).symm.trans h
      by_cases c8 : v1 = (8 : Int32)
      · replace h := (if_pos c8).symm.trans h
        refine lv_tableIn (tgt := 487) C.1 C.2.1 dL_law_39 (by rw [c8]; decide) (by rw [c8]; decide) (by rw [c8]; rfl) (by decide) ?_
        refine lv_aload_n C.1 C.2.1 dL_law_487 rfl (lv_at hl 1 rfl) ?_
        refine lv_aload_n C.1 C.2.1 dL_law_488 rfl (lv_at hl 0 rfl) ?_
        refine lv_iload C.1 C.2.1 dL_law_489 (lv_at hl 4 rfl) ?_
        refine lv_iconst (v := 1) C.1 C.2.1 dL_law_491 (by decide) ?_
        refine lv_iadd C.1 C.2.1 dL_law_492 ?_
        obtain ⟨n_, h⟩ := zc_gi_x h
        refine va_sld C.1 C.2.1 hX hbl hbA w.2.2 n_ dL_law_493 ?_
        refine lv_aload_n C.1 C.2.1 dL_law_494 rfl (lv_at hl 3 rfl) ?_
        obtain ⟨k62, r63, S64, hc, h⟩ := zc_b3_x h
        obtain ⟨n_, h⟩ := zc_k1_x h
        refine zr_callW C w (As := [.ref (zg_q G 0), .int (xs (Int32.toNatClampNeg (x4 + (1 : Int32)))), .ref (zg_q G 59)]) (zm_L_sample l hst G _ _ _ _ _ n_ hc) zm_c_L_sample zm_l_L_88 zm_s_L_sample zm_0_L zm_d_L_sample ⟨rfl, rfl⟩ ⟨Nat.le_of_ble_eq_true rfl, Nat.le_of_ble_eq_true rfl⟩ hl.1 rfl rfl (Nat.le_of_ble_eq_true rfl) dL_law_495 ⟨by show _ ≤ 1096; omega, by show _ ≤ 11559; omega⟩ (fun H locs w => ?_)
        refine zr_ltS h w (fun S65 w h => ?_)
        clear hc
        refine lv_istore (lv' := [(5, .int k62), (0, .ref bb), (1, .ref (zg_q G 0)), (2, .ref (zg_q G 40)), (3, .ref (zg_q G 59)), (4, .int x4)]) C.1 C.2.1 dL_law_498 hl (by decide) rfl (fun ls hl => ?_)
        refine lv_aload_n C.1 C.2.1 dL_law_500 rfl (lv_at hl 3 rfl) ?_
        refine lv_aload_n C.1 C.2.1 dL_law_501 rfl (lv_at hl 1 rfl) ?_
        refine lv_iload C.1 C.2.1 dL_law_502 (lv_at hl 5 rfl) ?_
        refine lv_iconst (v := 1) C.1 C.2.1 dL_law_504 (by decide) ?_
        refine lv_iadd C.1 C.2.1 dL_law_505 ?_
        obtain ⟨n_, h⟩ := zc_gi_x h
        refine va_sld C.1 C.2.1 hX hbl hbA w.2.2 n_ dL_law_506 ?_
        obtain ⟨v66, S67, hc, h⟩ := zc_b2_x h
        refine zr_callVi C w 40 (zw_g40 G _) rfl (As := [.int (xs (Int32.toNatClampNeg (x4 + (1 : Int32))))]) (zm_X11_sample l G _ _ _ _ hc) zm_c_X11_sample zm_l_L_90 zm_i_X11_sample zm_e_X11_sample zm_0_X11 zm_d_X11_sample ⟨rfl, rfl⟩ ⟨Nat.le_of_ble_eq_true rfl, Nat.le_of_ble_eq_true rfl⟩ hl.1 rfl rfl (Nat.le_of_ble_eq_true rfl) dL_law_507 ⟨by show _ ≤ 1096; omega, by show _ ≤ 11559; omega⟩ (fun H locs w => ?_)
        clear hc
        refine lv_istore (lv' := [(6, .int v66), (5, .int k62), (0, .ref bb), (1, .ref (zg_q G 0)), (2, .ref (zg_q G 40)), (3, .ref (zg_q G 59)), (4, .int x4)]) C.1 C.2.1 dL_law_510 hl (by decide) rfl (fun ls hl => ?_)
        refine lv_aload_n C.1 C.2.1 dL_law_512 rfl (lv_at hl 4 rfl) ?_
        obtain ⟨v68, hc, h⟩ := zc_b1_x h
        refine zr_callVi C w 40 (zw_g40 G _) rfl (As := []) (zm_X11_thrown l G _ _ hc) zm_c_X11_thrown zm_l_L_56 zm_i_X11_thrown zm_e_X11_thrown zm_0_X11 zm_d_X11_thrown ⟨rfl, rfl⟩ ⟨Nat.le_of_ble_eq_true rfl, Nat.le_of_ble_eq_true rfl⟩ hl.1 rfl rfl (Nat.le_of_ble_eq_true rfl) dL_law_513 ⟨by show _ ≤ 1096; omega, by show _ ≤ 11559; omega⟩ (fun H locs w => ?_)
        clear hc
        refine lv_iload C.1 C.2.1 dL_law_516 (lv_at hl 1 rfl) ?_
        refine zr_ic_eq (tgt := 523) C dL_law_518 (by decide) h (fun h => ?_) (fun h => ?_)
        · refine lv_iload C.1 C.2.1 dL_law_523 (lv_at hl 1 rfl) ?_
          refine zr_if_ne (tgt := 540) C dL_law_525 (by decide) h (fun h => ?_) (fun h => ?_)
          · refine lv_goto (tgt := 703) C.1 C.2.1 dL_law_540 (by decide) ?_
            obtain ⟨v69, e_, h⟩ := zc_lt_x h
            refine lv_iinc (v := v69) (lv' := [(4, .int v69), (6, .int v66), (5, .int k62), (0, .ref bb), (1, .ref (zg_q G 0)), (2, .ref (zg_q G 40)), (3, .ref (zg_q G 59))]) C.1 C.2.1 dL_law_703 hl (k := 6) rfl (by subst e_; rfl) (by decide) rfl (fun ls hl => ?_)
            clear e_
            refine lv_goto (tgt := 23) C.1 C.2.1 dL_law_706 (by decide) ?_
            exact ih _ _ _ _ (by omega) (by omega) h _ _ _ w (lv_sub hl [3, 4, 5, 6, 0] rfl)
          · refine lv_aload_n C.1 C.2.1 dL_law_528 rfl (lv_at hl 5 rfl) ?_
            refine lv_iconst (v := 0) C.1 C.2.1 dL_law_529 (by decide) ?_
            refine zr_lald C w 59 (zw_g59 G _) dL_law_530 h (fun h => ?_)
            refine lv_iload C.1 C.2.1 dL_law_531 (lv_at hl 0 rfl) ?_
            refine lv_i2l C.1 C.2.1 dL_law_533 rfl ?_
            refine zr_lc_eq (tgt := 540) C dL_law_534 dL_law_535 (by decide) h (fun h => ?_) (fun h => ?_)
            · refine lv_goto (tgt := 703) C.1 C.2.1 dL_law_540 (by decide) ?_
              obtain ⟨v70, e_, h⟩ := zc_lt_x h
              refine lv_iinc (v := v70) (lv' := [(4, .int v70), (6, .int v66), (5, .int k62), (0, .ref bb), (1, .ref (zg_q G 0)), (2, .ref (zg_q G 40)), (3, .ref (zg_q G 59))]) C.1 C.2.1 dL_law_703 hl (k := 6) rfl (by subst e_; rfl) (by decide) rfl (fun ls hl => ?_)
              clear e_
              refine lv_goto (tgt := 23) C.1 C.2.1 dL_law_706 (by decide) ?_
              exact ih _ _ _ _ (by omega) (by omega) h _ _ _ w (lv_sub hl [3, 4, 5, 6, 0] rfl)
            · refine lv_iconst (v := 0) C.1 C.2.1 dL_law_538 (by decide) ?_
              cases h
        · refine lv_iconst (v := 0) C.1 C.2.1 dL_law_521 (by decide) ?_
          cases h
      replace h := (if_neg c8).symm.trans h
      by_cases c9 : v1 = (9 : Int32)
      · replace h := (if_pos c9).symm.trans h
        refine lv_tableIn (tgt := 543) C.1 C.2.1 dL_law_39 (by rw [c9]; decide) (by rw [c9]; decide) (by rw [c9]; rfl) (by decide) ?_
        refine lv_aload_n C.1 C.2.1 dL_law_543 rfl (lv_at hl 1 rfl) ?_
        refine lv_aload_n C.1 C.2.1 dL_law_544 rfl (lv_at hl 0 rfl) ?_
        refine lv_iload C.1 C.2.1 dL_law_545 (lv_at hl 4 rfl) ?_
        refine lv_iconst (v := 1) C.1 C.2.1 dL_law_547 (by decide) ?_
        refine lv_iadd C.1 C.2.1 dL_law_548 ?_
        obtain ⟨n_, h⟩ := zc_gi_x h
        refine va_sld C.1 C.2.1 hX hbl hbA w.2.2 n_ dL_law_549 ?_
        obtain ⟨k71, r72, S73, hc, h⟩ := zc_b3_x h
        obtain ⟨n_, h⟩ := zc_k1_x h
        refine zr_callW C w (As := [.ref (zg_q G 0), .int (xs (Int32.toNatClampNeg (x4 + (1 : Int32))))]) (zm_L_reset l hst G _ _ _ _ _ n_ hc) zm_c_L_reset zm_l_L_91 zm_s_L_reset zm_0_L zm_d_L_reset ⟨rfl, rfl⟩ ⟨Nat.le_of_ble_eq_true rfl, Nat.le_of_ble_eq_true rfl⟩ hl.1 rfl rfl (Nat.le_of_ble_eq_true rfl) dL_law_550 ⟨by show _ ≤ 1096; omega, by show _ ≤ 11559; omega⟩ (fun H locs w => ?_)
        refine zr_ltS h w (fun S74 w h => ?_)
        clear hc
        refine lv_istore (lv' := [(5, .int k71), (0, .ref bb), (1, .ref (zg_q G 0)), (2, .ref (zg_q G 40)), (3, .ref (zg_q G 59)), (4, .int x4)]) C.1 C.2.1 dL_law_553 hl (by decide) rfl (fun ls hl => ?_)
        refine lv_aload_n C.1 C.2.1 dL_law_555 rfl (lv_at hl 3 rfl) ?_
        refine lv_aload_n C.1 C.2.1 dL_law_556 rfl (lv_at hl 1 rfl) ?_
        refine lv_iload C.1 C.2.1 dL_law_557 (lv_at hl 5 rfl) ?_
        refine lv_iconst (v := 1) C.1 C.2.1 dL_law_559 (by decide) ?_
        refine lv_iadd C.1 C.2.1 dL_law_560 ?_
        obtain ⟨n_, h⟩ := zc_gi_x h
        refine va_sld C.1 C.2.1 hX hbl hbA w.2.2 n_ dL_law_561 ?_
        obtain ⟨S75, hc, h⟩ := zc_b1_x h
        refine zr_callVv C w 40 (zw_g40 G _) rfl (As := [.int (xs (Int32.toNatClampNeg (x4 + (1 : Int32))))]) (zm_X11_reset l G _ _ _ hc) zm_c_X11_reset zm_l_L_94 zm_i_X11_reset zm_e_X11_reset zm_0_X11 zm_d_X11_reset ⟨rfl, rfl⟩ ⟨Nat.le_of_ble_eq_true rfl, Nat.le_of_ble_eq_true rfl⟩ hl.1 rfl rfl (Nat.le_of_ble_eq_true rfl) dL_law_562 ⟨by show _ ≤ 1096; omega, by show _ ≤ 11559; omega⟩ (fun H locs w => ?_)
        clear hc
        refine lv_aload_n C.1 C.2.1 dL_law_565 rfl (lv_at hl 3 rfl) ?_
        obtain ⟨v76, hc, h⟩ := zc_b1_x h
        refine zr_callVi C w 40 (zw_g40 G _) rfl (As := []) (zm_X11_thrown l G _ _ hc) zm_c_X11_thrown zm_l_L_56 zm_i_X11_thrown zm_e_X11_thrown zm_0_X11 zm_d_X11_thrown ⟨rfl, rfl⟩ ⟨Nat.le_of_ble_eq_true rfl, Nat.le_of_ble_eq_true rfl⟩ hl.1 rfl rfl (Nat.le_of_ble_eq_true rfl) dL_law_566 ⟨by show _ ≤ 1096; omega, by show _ ≤ 11559; omega⟩ (fun H locs w => ?_)
        clear hc
        refine lv_iload C.1 C.2.1 dL_law_569 (lv_at hl 0 rfl) ?_
        refine zr_ic_eq (tgt := 576) C dL_law_571 (by decide) h (fun h => ?_) (fun h => ?_)
        · refine lv_goto (tgt := 703) C.1 C.2.1 dL_law_576 (by decide) ?_
          obtain ⟨v77, e_, h⟩ := zc_lt_x h
          refine lv_iinc (v := v77) (lv' := [(4, .int v77), (5, .int k71), (0, .ref bb), (1, .ref (zg_q G 0)), (2, .ref (zg_q G 40)), (3, .ref (zg_q G 59))]) C.1 C.2.1 dL_law_703 hl (k := 5) rfl (by subst e_; rfl) (by decide) rfl (fun ls hl => ?_)
          clear e_
          refine lv_goto (tgt := 23) C.1 C.2.1 dL_law_706 (by decide) ?_
          exact ih _ _ _ _ (by omega) (by omega) h _ _ _ w (lv_sub hl [2, 3, 4, 5, 0] rfl)
        · refine lv_iconst (v := 0) C.1 C.2.1 dL_law_574 (by decide) ?_
          cases h
      replace h := (if_neg c9).symm.trans h
      by_cases c10 : v1 = (10 : Int32)
      · replace h := (if_pos c10).symm.trans h
        refine lv_tableIn (tgt := 579) C.1 C.2.1 dL_law_39 (by rw [c10]; decide) (by rw [c10]; decide) (by rw [c10]; rfl) (by decide) ?_
        refine lv_aload_n C.1 C.2.1 dL_law_579 rfl (lv_at hl 1 rfl) ?_
        refine lv_aload_n C.1 C.2.1 dL_law_580 rfl (lv_at hl 0 rfl) ?_
        refine lv_iload C.1 C.2.1 dL_law_581 (lv_at hl 4 rfl) ?_
        refine lv_iconst (v := 1) C.1 C.2.1 dL_law_583 (by decide) ?_
        refine lv_iadd C.1 C.2.1 dL_law_584 ?_
        obtain ⟨n_, h⟩ := zc_gi_x h
        refine va_sld C.1 C.2.1 hX hbl hbA w.2.2 n_ dL_law_585 ?_
        refine lv_aload_n C.1 C.2.1 dL_law_586 rfl (lv_at hl 0 rfl) ?_
        refine lv_iload C.1 C.2.1 dL_law_587 (lv_at hl 4 rfl) ?_
        refine lv_iconst (v := 2) C.1 C.2.1 dL_law_589 (by decide) ?_
        refine lv_iadd C.1 C.2.1 dL_law_590 ?_
        obtain ⟨n_, h⟩ := zc_gi_x h
        refine va_sld C.1 C.2.1 hX hbl hbA w.2.2 n_ dL_law_591 ?_
        refine lv_aload_n C.1 C.2.1 dL_law_592 rfl (lv_at hl 3 rfl) ?_
        obtain ⟨k78, r79, S80, hc, h⟩ := zc_b3_x h
        obtain ⟨n_, h⟩ := zc_k1_x h
        refine zr_callW C w (As := [.ref (zg_q G 0), .int (xs (Int32.toNatClampNeg (x4 + (1 : Int32)))), .int (xs (Int32.toNatClampNeg (x4 + (2 : Int32)))), .ref (zg_q G 59)]) (zm_L_state l hst G _ _ _ _ _ _ n_ hc) zm_c_L_state zm_l_L_95 zm_s_L_state zm_0_L zm_d_L_state ⟨rfl, rfl⟩ ⟨Nat.le_of_ble_eq_true rfl, Nat.le_of_ble_eq_true rfl⟩ hl.1 rfl rfl (Nat.le_of_ble_eq_true rfl) dL_law_593 ⟨by show _ ≤ 1096; omega, by show _ ≤ 11559; omega⟩ (fun H locs w => ?_)
        refine zr_ltS h w (fun S81 w h => ?_)
        clear hc
        refine lv_istore (lv' := [(5, .int k78), (0, .ref bb), (1, .ref (zg_q G 0)), (2, .ref (zg_q G 40)), (3, .ref (zg_q G 59)), (4, .int x4)]) C.1 C.2.1 dL_law_596 hl (by decide) rfl (fun ls hl => ?_)
        refine lv_aload_n C.1 C.2.1 dL_law_598 rfl (lv_at hl 3 rfl) ?_
        refine lv_aload_n C.1 C.2.1 dL_law_599 rfl (lv_at hl 1 rfl) ?_
        refine lv_iload C.1 C.2.1 dL_law_600 (lv_at hl 5 rfl) ?_
        refine lv_iconst (v := 1) C.1 C.2.1 dL_law_602 (by decide) ?_
        refine lv_iadd C.1 C.2.1 dL_law_603 ?_
        obtain ⟨n_, h⟩ := zc_gi_x h
        refine va_sld C.1 C.2.1 hX hbl hbA w.2.2 n_ dL_law_604 ?_
        refine lv_aload_n C.1 C.2.1 dL_law_605 rfl (lv_at hl 1 rfl) ?_
        refine lv_iload C.1 C.2.1 dL_law_606 (lv_at hl 5 rfl) ?_
        refine lv_iconst (v := 2) C.1 C.2.1 dL_law_608 (by decide) ?_
        refine lv_iadd C.1 C.2.1 dL_law_609 ?_
        obtain ⟨n_, h⟩ := zc_gi_x h
        refine va_sld C.1 C.2.1 hX hbl hbA w.2.2 n_ dL_law_610 ?_
        obtain ⟨v82, S83, hc, h⟩ := zc_b2_x h
        refine zr_callVi C w 40 (zw_g40 G _) rfl (As := [.int (xs (Int32.toNatClampNeg (x4 + (1 : Int32)))), .int (xs (Int32.toNatClampNeg (x4 + (2 : Int32))))]) (zm_X11_state l G _ _ _ _ _ hc) zm_c_X11_state zm_l_L_98 zm_i_X11_state zm_e_X11_state zm_0_X11 zm_d_X11_state ⟨rfl, rfl⟩ ⟨Nat.le_of_ble_eq_true rfl, Nat.le_of_ble_eq_true rfl⟩ hl.1 rfl rfl (Nat.le_of_ble_eq_true rfl) dL_law_611 ⟨by show _ ≤ 1096; omega, by show _ ≤ 11559; omega⟩ (fun H locs w => ?_)
        clear hc
        refine lv_istore (lv' := [(6, .int v82), (5, .int k78), (0, .ref bb), (1, .ref (zg_q G 0)), (2, .ref (zg_q G 40)), (3, .ref (zg_q G 59)), (4, .int x4)]) C.1 C.2.1 dL_law_614 hl (by decide) rfl (fun ls hl => ?_)
        refine lv_aload_n C.1 C.2.1 dL_law_616 rfl (lv_at hl 4 rfl) ?_
        obtain ⟨v84, hc, h⟩ := zc_b1_x h
        refine zr_callVi C w 40 (zw_g40 G _) rfl (As := []) (zm_X11_thrown l G _ _ hc) zm_c_X11_thrown zm_l_L_56 zm_i_X11_thrown zm_e_X11_thrown zm_0_X11 zm_d_X11_thrown ⟨rfl, rfl⟩ ⟨Nat.le_of_ble_eq_true rfl, Nat.le_of_ble_eq_true rfl⟩ hl.1 rfl rfl (Nat.le_of_ble_eq_true rfl) dL_law_617 ⟨by show _ ≤ 1096; omega, by show _ ≤ 11559; omega⟩ (fun H locs w => ?_)
        clear hc
        refine lv_iload C.1 C.2.1 dL_law_620 (lv_at hl 1 rfl) ?_
        refine zr_ic_eq (tgt := 627) C dL_law_622 (by decide) h (fun h => ?_) (fun h => ?_)
        · refine lv_iload C.1 C.2.1 dL_law_627 (lv_at hl 1 rfl) ?_
          refine zr_if_ne (tgt := 644) C dL_law_629 (by decide) h (fun h => ?_) (fun h => ?_)
          · refine lv_goto (tgt := 703) C.1 C.2.1 dL_law_644 (by decide) ?_
            obtain ⟨v85, e_, h⟩ := zc_lt_x h
            refine lv_iinc (v := v85) (lv' := [(4, .int v85), (6, .int v82), (5, .int k78), (0, .ref bb), (1, .ref (zg_q G 0)), (2, .ref (zg_q G 40)), (3, .ref (zg_q G 59))]) C.1 C.2.1 dL_law_703 hl (k := 6) rfl (by subst e_; rfl) (by decide) rfl (fun ls hl => ?_)
            clear e_
            refine lv_goto (tgt := 23) C.1 C.2.1 dL_law_706 (by decide) ?_
            exact ih _ _ _ _ (by omega) (by omega) h _ _ _ w (lv_sub hl [3, 4, 5, 6, 0] rfl)
          · refine lv_aload_n C.1 C.2.1 dL_law_632 rfl (lv_at hl 5 rfl) ?_
            refine lv_iconst (v := 0) C.1 C.2.1 dL_law_633 (by decide) ?_
            refine zr_lald C w 59 (zw_g59 G _) dL_law_634 h (fun h => ?_)
            refine lv_iload C.1 C.2.1 dL_law_635 (lv_at hl 0 rfl) ?_
            refine lv_i2l C.1 C.2.1 dL_law_637 rfl ?_
            refine zr_lc_eq (tgt := 644) C dL_law_638 dL_law_639 (by decide) h (fun h => ?_) (fun h => ?_)
            · refine lv_goto (tgt := 703) C.1 C.2.1 dL_law_644 (by decide) ?_
              obtain ⟨v86, e_, h⟩ := zc_lt_x h
              refine lv_iinc (v := v86) (lv' := [(4, .int v86), (6, .int v82), (5, .int k78), (0, .ref bb), (1, .ref (zg_q G 0)), (2, .ref (zg_q G 40)), (3, .ref (zg_q G 59))]) C.1 C.2.1 dL_law_703 hl (k := 6) rfl (by subst e_; rfl) (by decide) rfl (fun ls hl => ?_)
              clear e_
              refine lv_goto (tgt := 23) C.1 C.2.1 dL_law_706 (by decide) ?_
              exact ih _ _ _ _ (by omega) (by omega) h _ _ _ w (lv_sub hl [3, 4, 5, 6, 0] rfl)
            · refine lv_iconst (v := 0) C.1 C.2.1 dL_law_642 (by decide) ?_
              cases h
        · refine lv_iconst (v := 0) C.1 C.2.1 dL_law_625 (by decide) ?_
          cases h
      replace h := (if_neg c10).symm.trans h
      by_cases c11 : v1 = (11 : Int32)
      · replace h := (if_pos c11).symm.trans h
        refine lv_tableIn (tgt := 647) C.1 C.2.1 dL_law_39 (by rw [c11]; decide) (by rw [c11]; decide) (by rw [c11]; rfl) (by decide) ?_
        refine lv_aload_n C.1 C.2.1 dL_law_647 rfl (lv_at hl 1 rfl) ?_
        refine lv_aload_n C.1 C.2.1 dL_law_648 rfl (lv_at hl 0 rfl) ?_
        refine lv_iload C.1 C.2.1 dL_law_649 (lv_at hl 4 rfl) ?_
        refine lv_iconst (v := 1) C.1 C.2.1 dL_law_651 (by decide) ?_
        refine lv_iadd C.1 C.2.1 dL_law_652 ?_
        obtain ⟨n_, h⟩ := zc_gi_x h
        refine va_sld C.1 C.2.1 hX hbl hbA w.2.2 n_ dL_law_653 ?_
        refine lv_aload_n C.1 C.2.1 dL_law_654 rfl (lv_at hl 3 rfl) ?_
        obtain ⟨k87, r88, S89, hc, h⟩ := zc_b3_x h
        obtain ⟨n_, h⟩ := zc_k1_x h
        refine zr_callW C w (As := [.ref (zg_q G 0), .int (xs (Int32.toNatClampNeg (x4 + (1 : Int32)))), .ref (zg_q G 59)]) (zm_L_about l hst G _ _ _ _ _ n_ hc) zm_c_L_about zm_l_L_99 zm_s_L_about zm_0_L zm_d_L_about ⟨rfl, rfl⟩ ⟨Nat.le_of_ble_eq_true rfl, Nat.le_of_ble_eq_true rfl⟩ hl.1 rfl rfl (Nat.le_of_ble_eq_true rfl) dL_law_655 ⟨by show _ ≤ 1096; omega, by show _ ≤ 11559; omega⟩ (fun H locs w => ?_)
        refine zr_ltS h w (fun S90 w h => ?_)
        clear hc
        refine lv_istore (lv' := [(5, .int k87), (0, .ref bb), (1, .ref (zg_q G 0)), (2, .ref (zg_q G 40)), (3, .ref (zg_q G 59)), (4, .int x4)]) C.1 C.2.1 dL_law_658 hl (by decide) rfl (fun ls hl => ?_)
        refine lv_aload_n C.1 C.2.1 dL_law_660 rfl (lv_at hl 3 rfl) ?_
        refine lv_aload_n C.1 C.2.1 dL_law_661 rfl (lv_at hl 1 rfl) ?_
        refine lv_iload C.1 C.2.1 dL_law_662 (lv_at hl 5 rfl) ?_
        refine lv_iconst (v := 1) C.1 C.2.1 dL_law_664 (by decide) ?_
        refine lv_iadd C.1 C.2.1 dL_law_665 ?_
        obtain ⟨n_, h⟩ := zc_gi_x h
        refine va_sld C.1 C.2.1 hX hbl hbA w.2.2 n_ dL_law_666 ?_
        obtain ⟨v91, S92, hc, h⟩ := zc_b2_x h
        refine zr_callVi C w 40 (zw_g40 G _) rfl (As := [.int (xs (Int32.toNatClampNeg (x4 + (1 : Int32))))]) (zm_X11_about l G _ _ _ _ hc) zm_c_X11_about zm_l_L_101 zm_i_X11_about zm_e_X11_about zm_0_X11 zm_d_X11_about ⟨rfl, rfl⟩ ⟨Nat.le_of_ble_eq_true rfl, Nat.le_of_ble_eq_true rfl⟩ hl.1 rfl rfl (Nat.le_of_ble_eq_true rfl) dL_law_667 ⟨by show _ ≤ 1096; omega, by show _ ≤ 11559; omega⟩ (fun H locs w => ?_)
        clear hc
        refine lv_istore (lv' := [(6, .int v91), (5, .int k87), (0, .ref bb), (1, .ref (zg_q G 0)), (2, .ref (zg_q G 40)), (3, .ref (zg_q G 59)), (4, .int x4)]) C.1 C.2.1 dL_law_670 hl (by decide) rfl (fun ls hl => ?_)
        refine lv_aload_n C.1 C.2.1 dL_law_672 rfl (lv_at hl 4 rfl) ?_
        obtain ⟨v93, hc, h⟩ := zc_b1_x h
        refine zr_callVi C w 40 (zw_g40 G _) rfl (As := []) (zm_X11_thrown l G _ _ hc) zm_c_X11_thrown zm_l_L_56 zm_i_X11_thrown zm_e_X11_thrown zm_0_X11 zm_d_X11_thrown ⟨rfl, rfl⟩ ⟨Nat.le_of_ble_eq_true rfl, Nat.le_of_ble_eq_true rfl⟩ hl.1 rfl rfl (Nat.le_of_ble_eq_true rfl) dL_law_673 ⟨by show _ ≤ 1096; omega, by show _ ≤ 11559; omega⟩ (fun H locs w => ?_)
        clear hc
        refine lv_iload C.1 C.2.1 dL_law_676 (lv_at hl 1 rfl) ?_
        refine zr_ic_eq (tgt := 683) C dL_law_678 (by decide) h (fun h => ?_) (fun h => ?_)
        · refine lv_iload C.1 C.2.1 dL_law_683 (lv_at hl 1 rfl) ?_
          refine zr_if_ne (tgt := 700) C dL_law_685 (by decide) h (fun h => ?_) (fun h => ?_)
          · refine lv_goto (tgt := 703) C.1 C.2.1 dL_law_700 (by decide) ?_
            obtain ⟨v94, e_, h⟩ := zc_lt_x h
            refine lv_iinc (v := v94) (lv' := [(4, .int v94), (6, .int v91), (5, .int k87), (0, .ref bb), (1, .ref (zg_q G 0)), (2, .ref (zg_q G 40)), (3, .ref (zg_q G 59))]) C.1 C.2.1 dL_law_703 hl (k := 6) rfl (by subst e_; rfl) (by decide) rfl (fun ls hl => ?_)
            clear e_
            refine lv_goto (tgt := 23) C.1 C.2.1 dL_law_706 (by decide) ?_
            exact ih _ _ _ _ (by omega) (by omega) h _ _ _ w (lv_sub hl [3, 4, 5, 6, 0] rfl)
          · refine lv_aload_n C.1 C.2.1 dL_law_688 rfl (lv_at hl 5 rfl) ?_
            refine lv_iconst (v := 0) C.1 C.2.1 dL_law_689 (by decide) ?_
            refine zr_lald C w 59 (zw_g59 G _) dL_law_690 h (fun h => ?_)
            refine lv_iload C.1 C.2.1 dL_law_691 (lv_at hl 0 rfl) ?_
            refine lv_i2l C.1 C.2.1 dL_law_693 rfl ?_
            refine zr_lc_eq (tgt := 700) C dL_law_694 dL_law_695 (by decide) h (fun h => ?_) (fun h => ?_)
            · refine lv_goto (tgt := 703) C.1 C.2.1 dL_law_700 (by decide) ?_
              obtain ⟨v95, e_, h⟩ := zc_lt_x h
              refine lv_iinc (v := v95) (lv' := [(4, .int v95), (6, .int v91), (5, .int k87), (0, .ref bb), (1, .ref (zg_q G 0)), (2, .ref (zg_q G 40)), (3, .ref (zg_q G 59))]) C.1 C.2.1 dL_law_703 hl (k := 6) rfl (by subst e_; rfl) (by decide) rfl (fun ls hl => ?_)
              clear e_
              refine lv_goto (tgt := 23) C.1 C.2.1 dL_law_706 (by decide) ?_
              exact ih _ _ _ _ (by omega) (by omega) h _ _ _ w (lv_sub hl [3, 4, 5, 6, 0] rfl)
            · refine lv_iconst (v := 0) C.1 C.2.1 dL_law_698 (by decide) ?_
              cases h
        · refine lv_iconst (v := 0) C.1 C.2.1 dL_law_681 (by decide) ?_
          cases h
      replace h := (if_neg c11).symm.trans h
      refine lv_tableOut (tgt := 703) C.1 C.2.1 dL_law_39 (by have q0 := lv_neT (a := 0) c0 rfl; have q1 := lv_neT (a := 1) c1 rfl; have q2 := lv_neT (a := 2) c2 rfl; have q3 := lv_neT (a := 3) c3 rfl; have q4 := lv_neT (a := 4) c4 rfl; have q5 := lv_neT (a := 5) c5 rfl; have q6 := lv_neT (a := 6) c6 rfl; have q7 := lv_neT (a := 7) c7 rfl; have q8 := lv_neT (a := 8) c8 rfl; have q9 := lv_neT (a := 9) c9 rfl; have q10 := lv_neT (a := 10) c10 rfl; have q11 := lv_neT (a := 11) c11 rfl; omega) (by decide) ?_
      obtain ⟨v96, e_, h⟩ := zc_lt_x h
      refine lv_iinc (v := v96) (lv' := [(4, .int v96), (0, .ref bb), (1, .ref (zg_q G 0)), (2, .ref (zg_q G 40)), (3, .ref (zg_q G 59))]) C.1 C.2.1 dL_law_703 hl (k := 4) rfl (by subst e_; rfl) (by decide) rfl (fun ls hl => ?_)
      clear e_
      refine lv_goto (tgt := 23) C.1 C.2.1 dL_law_706 (by decide) ?_
      exact ih _ _ _ _ (by omega) (by omega) h _ _ _ w (lv_sub hl [1, 2, 3, 4, 0] rfl)
