theorem zm_l_L_50 : Cond.methodLink RL 50 yL_put ∈ zt_G := zt_m 391 (by decide +kernel) (by decide +kernel)
theorem zm_c_X11_put : Cond.code yX11_put cX11_put 2 (some .int) ∈ zt_G := zt_m 834 (by decide +kernel) (by decide +kernel)
theorem zm_i_X11_put : Cond.instanceMethod yX11_put ∈ zt_G := zt_m 832 (by decide +kernel) (by decide +kernel)
theorem zm_e_X11_put : Cond.selects RX11 yX11_put yX11_put ∈ zt_G := zt_m 833 (by decide +kernel) (by decide +kernel)
theorem zm_d_X11_put : yX11_put.cls ≠ "java/lang/invoke/MethodHandle" ∧ yX11_put.cls ≠ "java/lang/invoke/VarHandle" ∧ (parseMethodDescriptor yX11_put.desc).map (fun d => d.parameters.length) = some 1 := by decide +kernel
theorem zm_l_L_55 : Cond.methodLink RL 55 yX11_put ∈ zt_G := zt_m 831 (by decide +kernel) (by decide +kernel)
theorem zm_c_X11_thrown : Cond.code yX11_thrown cX11_thrown 1 (some .int) ∈ zt_G := zt_m 830 (by decide +kernel) (by decide +kernel)
theorem zm_i_X11_thrown : Cond.instanceMethod yX11_thrown ∈ zt_G := zt_m 828 (by decide +kernel) (by decide +kernel)
theorem zm_e_X11_thrown : Cond.selects RX11 yX11_thrown yX11_thrown ∈ zt_G := zt_m 829 (by decide +kernel) (by decide +kernel)
theorem zm_d_X11_thrown : yX11_thrown.cls ≠ "java/lang/invoke/MethodHandle" ∧ yX11_thrown.cls ≠ "java/lang/invoke/VarHandle" ∧ (parseMethodDescriptor yX11_thrown.desc).map (fun d => d.parameters.length) = some 0 := by decide +kernel
theorem zm_l_L_56 : Cond.methodLink RL 56 yX11_thrown ∈ zt_G := zt_m 827 (by decide +kernel) (by decide +kernel)
theorem zm_l_L_59 : Cond.methodLink RL 59 yL_fill ∈ zt_G := zt_m 483 (by decide +kernel) (by decide +kernel)
theorem zm_c_X11_fill : Cond.code yX11_fill cX11_fill 9 (some .int) ∈ zt_G := zt_m 842 (by decide +kernel) (by decide +kernel)
theorem zm_i_X11_fill : Cond.instanceMethod yX11_fill ∈ zt_G := zt_m 840 (by decide +kernel) (by decide +kernel)
theorem zm_e_X11_fill : Cond.selects RX11 yX11_fill yX11_fill ∈ zt_G := zt_m 841 (by decide +kernel) (by decide +kernel)
theorem zm_d_X11_fill : yX11_fill.cls ≠ "java/lang/invoke/MethodHandle" ∧ yX11_fill.cls ≠ "java/lang/invoke/VarHandle" ∧ (parseMethodDescriptor yX11_fill.desc).map (fun d => d.parameters.length) = some 3 := by decide +kernel
theorem zm_l_L_62 : Cond.methodLink RL 62 yX11_fill ∈ zt_G := zt_m 839 (by decide +kernel) (by decide +kernel)
theorem zm_l_L_63 : Cond.methodLink RL 63 yL_encode ∈ zt_G := zt_m 492 (by decide +kernel) (by decide +kernel)
theorem zm_c_X11_encode : Cond.code yX11_encode cX11_encode 4 (some .int) ∈ zt_G := zt_m 849 (by decide +kernel) (by decide +kernel)
theorem zm_i_X11_encode : Cond.instanceMethod yX11_encode ∈ zt_G := zt_m 847 (by decide +kernel) (by decide +kernel)
theorem zm_e_X11_encode : Cond.selects RX11 yX11_encode yX11_encode ∈ zt_G := zt_m 848 (by decide +kernel) (by decide +kernel)
theorem zm_d_X11_encode : yX11_encode.cls ≠ "java/lang/invoke/MethodHandle" ∧ yX11_encode.cls ≠ "java/lang/invoke/VarHandle" ∧ (parseMethodDescriptor yX11_encode.desc).map (fun d => d.parameters.length) = some 0 := by decide +kernel
theorem zm_l_L_66 : Cond.methodLink RL 66 yX11_encode ∈ zt_G := zt_m 846 (by decide +kernel) (by decide +kernel)
theorem zm_l_L_67 : Cond.methodLink RL 67 yL_parameter ∈ zt_G := zt_m 647 (by decide +kernel) (by decide +kernel)
theorem zm_c_X11_parameter : Cond.code yX11_parameter cX11_parameter 2 (some .int) ∈ zt_G := zt_m 977 (by decide +kernel) (by decide +kernel)
theorem zm_i_X11_parameter : Cond.instanceMethod yX11_parameter ∈ zt_G := zt_m 975 (by decide +kernel) (by decide +kernel)
theorem zm_e_X11_parameter : Cond.selects RX11 yX11_parameter yX11_parameter ∈ zt_G := zt_m 976 (by decide +kernel) (by decide +kernel)
theorem zm_d_X11_parameter : yX11_parameter.cls ≠ "java/lang/invoke/MethodHandle" ∧ yX11_parameter.cls ≠ "java/lang/invoke/VarHandle" ∧ (parseMethodDescriptor yX11_parameter.desc).map (fun d => d.parameters.length) = some 1 := by decide +kernel
theorem zm_l_L_69 : Cond.methodLink RL 69 yX11_parameter ∈ zt_G := zt_m 974 (by decide +kernel) (by decide +kernel)
theorem zm_k_L_70 : Cond.constantLong RL 70 (4294967295) ∈ zt_G := zt_m 1019 (by decide +kernel) (by decide +kernel)
theorem zm_l_L_72 : Cond.methodLink RL 72 yL_feed ∈ zt_G := zt_m 655 (by decide +kernel) (by decide +kernel)
theorem zm_c_X11_feed : Cond.code yX11_feed cX11_feed 5 (some .int) ∈ zt_G := zt_m 981 (by decide +kernel) (by decide +kernel)
theorem zm_i_X11_feed : Cond.instanceMethod yX11_feed ∈ zt_G := zt_m 979 (by decide +kernel) (by decide +kernel)
theorem zm_e_X11_feed : Cond.selects RX11 yX11_feed yX11_feed ∈ zt_G := zt_m 980 (by decide +kernel) (by decide +kernel)
theorem zm_d_X11_feed : yX11_feed.cls ≠ "java/lang/invoke/MethodHandle" ∧ yX11_feed.cls ≠ "java/lang/invoke/VarHandle" ∧ (parseMethodDescriptor yX11_feed.desc).map (fun d => d.parameters.length) = some 2 := by decide +kernel
theorem zm_l_L_75 : Cond.methodLink RL 75 yX11_feed ∈ zt_G := zt_m 978 (by decide +kernel) (by decide +kernel)
theorem zm_c_X10_take : Cond.code yX10_take cX10_take 1 (some .int) ∈ zt_G := zt_m 271 (by decide +kernel) (by decide +kernel)
theorem zm_i_X10_take : Cond.instanceMethod yX10_take ∈ zt_G := zt_m 269 (by decide +kernel) (by decide +kernel)
theorem zm_e_X10_take : Cond.selects RX10 yX10_take yX10_take ∈ zt_G := zt_m 270 (by decide +kernel) (by decide +kernel)
theorem zm_d_X10_take : yX10_take.cls ≠ "java/lang/invoke/MethodHandle" ∧ yX10_take.cls ≠ "java/lang/invoke/VarHandle" ∧ (parseMethodDescriptor yX10_take.desc).map (fun d => d.parameters.length) = some 0 := by decide +kernel
theorem zm_l_L_76 : Cond.methodLink RL 76 yX10_take ∈ zt_G := zt_m 268 (by decide +kernel) (by decide +kernel)
theorem zm_c_X11_take : Cond.code yX11_take cX11_take 4 (some .int) ∈ zt_G := zt_m 986 (by decide +kernel) (by decide +kernel)
theorem zm_i_X11_take : Cond.instanceMethod yX11_take ∈ zt_G := zt_m 984 (by decide +kernel) (by decide +kernel)
theorem zm_e_X11_take : Cond.selects RX11 yX11_take yX11_take ∈ zt_G := zt_m 985 (by decide +kernel) (by decide +kernel)
theorem zm_d_X11_take : yX11_take.cls ≠ "java/lang/invoke/MethodHandle" ∧ yX11_take.cls ≠ "java/lang/invoke/VarHandle" ∧ (parseMethodDescriptor yX11_take.desc).map (fun d => d.parameters.length) = some 0 := by decide +kernel
theorem zm_l_L_79 : Cond.methodLink RL 79 yX11_take ∈ zt_G := zt_m 983 (by decide +kernel) (by decide +kernel)
theorem zm_c_X10_decode : Cond.code yX10_decode cX10_decode 2 (some .int) ∈ zt_G := zt_m 289 (by decide +kernel) (by decide +kernel)
theorem zm_i_X10_decode : Cond.instanceMethod yX10_decode ∈ zt_G := zt_m 287 (by decide +kernel) (by decide +kernel)
theorem zm_e_X10_decode : Cond.selects RX10 yX10_decode yX10_decode ∈ zt_G := zt_m 288 (by decide +kernel) (by decide +kernel)
theorem zm_d_X10_decode : yX10_decode.cls ≠ "java/lang/invoke/MethodHandle" ∧ yX10_decode.cls ≠ "java/lang/invoke/VarHandle" ∧ (parseMethodDescriptor yX10_decode.desc).map (fun d => d.parameters.length) = some 0 := by decide +kernel
theorem zm_l_L_80 : Cond.methodLink RL 80 yX10_decode ∈ zt_G := zt_m 286 (by decide +kernel) (by decide +kernel)
theorem zm_c_X11_decode : Cond.code yX11_decode cX11_decode 7 (some .int) ∈ zt_G := zt_m 997 (by decide +kernel) (by decide +kernel)
theorem zm_i_X11_decode : Cond.instanceMethod yX11_decode ∈ zt_G := zt_m 995 (by decide +kernel) (by decide +kernel)
theorem zm_e_X11_decode : Cond.selects RX11 yX11_decode yX11_decode ∈ zt_G := zt_m 996 (by decide +kernel) (by decide +kernel)
theorem zm_d_X11_decode : yX11_decode.cls ≠ "java/lang/invoke/MethodHandle" ∧ yX11_decode.cls ≠ "java/lang/invoke/VarHandle" ∧ (parseMethodDescriptor yX11_decode.desc).map (fun d => d.parameters.length) = some 0 := by decide +kernel
theorem zm_l_L_83 : Cond.methodLink RL 83 yX11_decode ∈ zt_G := zt_m 994 (by decide +kernel) (by decide +kernel)
theorem zm_c_X10_hand : Cond.code yX10_hand cX10_hand 2 (some .int) ∈ zt_G := zt_m 390 (by decide +kernel) (by decide +kernel)
theorem zm_i_X10_hand : Cond.instanceMethod yX10_hand ∈ zt_G := zt_m 388 (by decide +kernel) (by decide +kernel)
theorem zm_e_X10_hand : Cond.selects RX10 yX10_hand yX10_hand ∈ zt_G := zt_m 389 (by decide +kernel) (by decide +kernel)
theorem zm_d_X10_hand : yX10_hand.cls ≠ "java/lang/invoke/MethodHandle" ∧ yX10_hand.cls ≠ "java/lang/invoke/VarHandle" ∧ (parseMethodDescriptor yX10_hand.desc).map (fun d => d.parameters.length) = some 1 := by decide +kernel
theorem zm_l_L_84 : Cond.methodLink RL 84 yX10_hand ∈ zt_G := zt_m 387 (by decide +kernel) (by decide +kernel)
theorem zm_c_X11_hand : Cond.code yX11_hand cX11_hand 2 (some .int) ∈ zt_G := zt_m 993 (by decide +kernel) (by decide +kernel)
theorem zm_i_X11_hand : Cond.instanceMethod yX11_hand ∈ zt_G := zt_m 991 (by decide +kernel) (by decide +kernel)
theorem zm_e_X11_hand : Cond.selects RX11 yX11_hand yX11_hand ∈ zt_G := zt_m 992 (by decide +kernel) (by decide +kernel)
theorem zm_d_X11_hand : yX11_hand.cls ≠ "java/lang/invoke/MethodHandle" ∧ yX11_hand.cls ≠ "java/lang/invoke/VarHandle" ∧ (parseMethodDescriptor yX11_hand.desc).map (fun d => d.parameters.length) = some 1 := by decide +kernel
theorem zm_l_L_87 : Cond.methodLink RL 87 yX11_hand ∈ zt_G := zt_m 990 (by decide +kernel) (by decide +kernel)
theorem zm_l_L_88 : Cond.methodLink RL 88 yL_sample ∈ zt_G := zt_m 664 (by decide +kernel) (by decide +kernel)
theorem zm_c_X11_sample : Cond.code yX11_sample cX11_sample 2 (some .int) ∈ zt_G := zt_m 1002 (by decide +kernel) (by decide +kernel)
theorem zm_i_X11_sample : Cond.instanceMethod yX11_sample ∈ zt_G := zt_m 1000 (by decide +kernel) (by decide +kernel)
theorem zm_e_X11_sample : Cond.selects RX11 yX11_sample yX11_sample ∈ zt_G := zt_m 1001 (by decide +kernel) (by decide +kernel)
theorem zm_d_X11_sample : yX11_sample.cls ≠ "java/lang/invoke/MethodHandle" ∧ yX11_sample.cls ≠ "java/lang/invoke/VarHandle" ∧ (parseMethodDescriptor yX11_sample.desc).map (fun d => d.parameters.length) = some 1 := by decide +kernel
theorem zm_l_L_90 : Cond.methodLink RL 90 yX11_sample ∈ zt_G := zt_m 999 (by decide +kernel) (by decide +kernel)
theorem zm_l_L_91 : Cond.methodLink RL 91 yL_reset ∈ zt_G := zt_m 672 (by decide +kernel) (by decide +kernel)
theorem zm_c_X11_reset : Cond.code yX11_reset cX11_reset 3 none ∈ zt_G := zt_m 1006 (by decide +kernel) (by decide +kernel)
theorem zm_i_X11_reset : Cond.instanceMethod yX11_reset ∈ zt_G := zt_m 1004 (by decide +kernel) (by decide +kernel)
theorem zm_e_X11_reset : Cond.selects RX11 yX11_reset yX11_reset ∈ zt_G := zt_m 1005 (by decide +kernel) (by decide +kernel)
theorem zm_d_X11_reset : yX11_reset.cls ≠ "java/lang/invoke/MethodHandle" ∧ yX11_reset.cls ≠ "java/lang/invoke/VarHandle" ∧ (parseMethodDescriptor yX11_reset.desc).map (fun d => d.parameters.length) = some 1 := by decide +kernel
theorem zm_l_L_94 : Cond.methodLink RL 94 yX11_reset ∈ zt_G := zt_m 1003 (by decide +kernel) (by decide +kernel)
theorem zm_l_L_95 : Cond.methodLink RL 95 yL_state ∈ zt_G := zt_m 706 (by decide +kernel) (by decide +kernel)
theorem zm_c_X11_state : Cond.code yX11_state cX11_state 4 (some .int) ∈ zt_G := zt_m 1014 (by decide +kernel) (by decide +kernel)
theorem zm_i_X11_state : Cond.instanceMethod yX11_state ∈ zt_G := zt_m 1012 (by decide +kernel) (by decide +kernel)
theorem zm_e_X11_state : Cond.selects RX11 yX11_state yX11_state ∈ zt_G := zt_m 1013 (by decide +kernel) (by decide +kernel)
theorem zm_d_X11_state : yX11_state.cls ≠ "java/lang/invoke/MethodHandle" ∧ yX11_state.cls ≠ "java/lang/invoke/VarHandle" ∧ (parseMethodDescriptor yX11_state.desc).map (fun d => d.parameters.length) = some 2 := by decide +kernel
theorem zm_l_L_98 : Cond.methodLink RL 98 yX11_state ∈ zt_G := zt_m 1011 (by decide +kernel) (by decide +kernel)
theorem zm_l_L_99 : Cond.methodLink RL 99 yL_about ∈ zt_G := zt_m 721 (by decide +kernel) (by decide +kernel)
theorem zm_c_X11_about : Cond.code yX11_about cX11_about 2 (some .int) ∈ zt_G := zt_m 1018 (by decide +kernel) (by decide +kernel)
theorem zm_i_X11_about : Cond.instanceMethod yX11_about ∈ zt_G := zt_m 1016 (by decide +kernel) (by decide +kernel)
theorem zm_e_X11_about : Cond.selects RX11 yX11_about yX11_about ∈ zt_G := zt_m 1017 (by decide +kernel) (by decide +kernel)
theorem zm_d_X11_about : yX11_about.cls ≠ "java/lang/invoke/MethodHandle" ∧ yX11_about.cls ≠ "java/lang/invoke/VarHandle" ∧ (parseMethodDescriptor yX11_about.desc).map (fun d => d.parameters.length) = some 1 := by decide +kernel
theorem zm_l_L_101 : Cond.methodLink RL 101 yX11_about ∈ zt_G := zt_m 1015 (by decide +kernel) (by decide +kernel)
/-! the law -/
def zc_k1 {α : Type} (k : Int32) (x : Option α) : Option α := if k = 0 ∨ k = 1 then x else none
def zc_k2 {α : Type} (k : Int32) (x : Option α) : Option α := if k = 0 ∨ k = 2 then x else none
def zc_k3 {α : Type} (k : Int32) (x : Option α) : Option α := if k = 0 ∨ k = 1 ∨ k = 2 then x else none
theorem zc_k1_x {α : Type} {k : Int32} {x : Option α} {r : α} (h : zc_k1 k x = some r) : (k = 0 ∨ k = 1) ∧ x = some r := by
  unfold zc_k1 at h
  by_cases c : k = 0 ∨ k = 1
  · rw [if_pos c] at h; exact ⟨c, h⟩
  · rw [if_neg c] at h; cases h
theorem zc_k2_x {α : Type} {k : Int32} {x : Option α} {r : α} (h : zc_k2 k x = some r) : (k = 0 ∨ k = 2) ∧ x = some r := by
  unfold zc_k2 at h
  by_cases c : k = 0 ∨ k = 2
  · rw [if_pos c] at h; exact ⟨c, h⟩
  · rw [if_neg c] at h; cases h
theorem zc_k3_x {α : Type} {k : Int32} {x : Option α} {r : α} (h : zc_k3 k x = some r) : (k = 0 ∨ k = 1 ∨ k = 2) ∧ x = some r := by
  unfold zc_k3 at h
  by_cases c : k = 0 ∨ k = 1 ∨ k = 2
  · rw [if_pos c] at h; exact ⟨c, h⟩
  · rw [if_neg c] at h; cases h
section ZL
variable {p : Program} {l : Launch} {e : Env} {R : Room} {s : State} {m : MethodId} {args : Array Value} {below : List Frame} {meth : Method} {c : Code} {H : Heap} {locs : List Loc} {cells slots : Nat} {Q : State → Prop}
variable {cc : ByteArray} {pc nL : Nat} {ls : Array Slot} {rest : List Value} {G : zg_T} {S : zs_T} {own : String} {α β : Type}
theorem zr_ltS {g : JFrame} {X : zs_T} {f : zs_T → β} {o : β} (h : zc_lt X f = o) (w : zg_W G X s H locs) (k : ∀ S : zs_T, zg_W G S s H locs → f S = o → W p l e R s m args below meth c H locs cells slots Q g) : W p l e R s m args below meth c H locs cells slots Q g := k X w h
theorem zt_inW {y : MethodName} {b : ByteArray} {n : Nat} {r : Option FieldType} {hh : List (Nat × Nat × Nat × Nat)} (h : Cond.codeWith y b n r hh ∈ zt_G) : GoodIn zt_G (Cond.codeWith y b n r hh :: zt_G) := fun w hw => by
  have hm : w ∈ zt_G := (List.mem_cons.mp hw).elim (fun e => e ▸ h) id
  exact ⟨hm, good_of_word (zt_good hm)⟩
theorem zr_callW {y : MethodName} {bytes : ByteArray} {maxL n index : Nat} {ret : Option FieldType} {hh : List (Nat × Nat × Nat × Nat)} {rm : Room} {v : Int32} {S1 : zs_T} {As st0 : List Value} (C : zx_C p s m args meth c G own cc nL) (w : zg_W G S s H locs)
    (hM : Met l y (Cond.codeWith y bytes maxL ret hh :: zt_G) rm (va_Pc As (zg_P G S)) (zg_Q G (some (.int v)) S1) 1 6 (zg_A G)) (hcode : Cond.codeWith y bytes maxL ret hh ∈ zt_G) (hlink : Cond.methodLink own index y ∈ zt_G) (hstat : Cond.static y ∈ zt_G) (hini : Cond.initialized y.cls ∈ zt_G)
    (hd : y.cls ≠ "java/lang/invoke/MethodHandle" ∧ y.cls ≠ "java/lang/invoke/VarHandle" ∧ (parseMethodDescriptor y.desc).map (fun d => d.parameters.length) = some n) (hrm : rm.cells = 1 ∧ rm.slots = 6) (hR : rm.frames + 1 ≤ R.frames ∧ 8 + (maxL + 11) + rm.locals ≤ R.locals)
    (hl : ls.size = nL) (hn : As.length = n) (hst : st0 = As.reverse ++ rest) (hw : (rest.map fun v => v.category).sum ≤ 8) (hdg : decode cc pc = .ok (.invokestatic index, 3)) (hf : cells + 1 ≤ R.cells ∧ slots + 6 ≤ R.slots)
    (kk : ∀ (H1 : Heap) (locs1 : List Loc), zg_W G S1 s H1 locs1 → W p l e R s m args below meth c H1 locs1 (cells + 1) (slots + 6) Q (F0 m (pc + 3) ls (.int v :: rest))) : W p l e R s m args below meth c H locs cells slots Q (F0 m pc ls st0) := by
  have hG : GoodIn zt_G (va_wsS own index y (Cond.codeWith y bytes maxL ret hh :: zt_G)) := fun z hz => by
    rcases List.mem_append.mp hz with h | h
    · have hm : z ∈ zt_G := by
        rcases List.mem_cons.mp h with h | h
        · exact h ▸ hlink
        · rcases List.mem_cons.mp h with h | h
          · exact h ▸ hstat
          · exact (List.mem_singleton.mp h) ▸ hini
      exact ⟨hm, good_of_word (zt_good hm)⟩
    · exact zt_inW hcode z h
  have hr := vx_runSW (p := p) (l := l) (e := e) (R := R) (m := m) (below := below) (meth := meth) (H := H) (locs := locs) (cells := cells) (slots := slots) (As := As) (rest := rest) (nL := nL) (n := n) (g := F0 m pc ls st0) ⟨C.1, C.2.1, C.2.2.1, C.2.2.2.1, C.2.2.2.2.1⟩ hM (vx_cwSW n C.2.2.2.2.1 hG rfl hrm.1 hrm.2 hd hR)
    ⟨zg_blind, fun U hU hW => ⟨rfl, zg_P.to C.2.2.2.2.2.2 w hU hW⟩⟩ rfl hn hl hst (by show 2 * 0 + _ ≤ 8; omega) hdg hf
  intro T hT X
  obtain ⟨v', st₀, t, T', L, h0, X', hL, e1, e2, ⟨hv, ⟨-, hP, hD⟩, hz, hk⟩, st⟩ := hr T hT X
  cases hv
  rw [h0] at hz hk
  obtain ⟨t2, a1, b1⟩ := kk T'.heap (locs ++ L) ⟨by rw [e1]; exact hP, hD, Nat.le_trans w.2.2.1 (by rw [e1]; exact hz), fun q h1 h2 => by
      rw [e1, hk q (Nat.lt_of_lt_of_le h1 w.2.2.1) h2]; exact w.2.2.2.1 q h1 h2, fun q hq => by
      rcases List.mem_append.mp hq with h | h
      · exact w.2.2.2.2 q h
      · exact hL q h⟩ T' rfl X'
  exact ⟨t2, st t2 a1, b1⟩
end ZL
def zb_L_law (xs : Nat → Int32) (L : Nat) (rec : zs_T → Int32 → Option zs_T) (S : zs_T) (x4 : Int32) : Option zs_T := (if ((Int32.ofNat L) - (4 : Int32)) < x4 then some S else zc_gi x4 L (zc_lt ((xs (Int32.toNatClampNeg x4)) &&& (15 : Int32)) (fun (v1 : Int32) => (if v1 = (0 : Int32) then zc_gi (x4 + (1 : Int32)) L (zc_b3 (zf_X10_put S (xs (Int32.toNatClampNeg (x4 + (1 : Int32))))) (fun k2 r3 S4 => zc_k3 k2 (zc_lt (zx_o k2 r3 S4) (fun (S5 : zs_T) => zc_gi (x4 + (1 : Int32)) L (zc_b2 (zf_X11_put S5 (xs (Int32.toNatClampNeg (x4 + (1 : Int32))))) (fun v6 S7 => zc_b1 (zf_X11_thrown S7) (fun v8 => (if v8 = k2 then (if k2 = 0 then zc_gi (0 : Int32) 1 ((if (S7.2 59 (Int32.toNatClampNeg (0 : Int32))) = (Int32.toInt64 v6) then zc_lt (x4 + (4 : Int32)) (fun (v10 : Int32) => rec S7 v10) else none)) else zc_lt (x4 + (4 : Int32)) (fun (v9 : Int32) => rec S7 v9)) else none)))))))) else if v1 = (1 : Int32) then zc_gi (x4 + (1 : Int32)) L (zc_gi (x4 + (2 : Int32)) L (zc_gi (x4 + (3 : Int32)) L (zc_b3 (zf_X10_fill S (xs (Int32.toNatClampNeg (x4 + (1 : Int32)))) (xs (Int32.toNatClampNeg (x4 + (2 : Int32)))) (xs (Int32.toNatClampNeg (x4 + (3 : Int32))))) (fun k11 r12 S13 => zc_k3 k11 (zc_lt (zx_o k11 r12 S13) (fun (S14 : zs_T) => zc_gi (x4 + (1 : Int32)) L (zc_gi (x4 + (2 : Int32)) L (zc_gi (x4 + (3 : Int32)) L (zc_b2 (zf_X11_fill S14 (xs (Int32.toNatClampNeg (x4 + (1 : Int32)))) (xs (Int32.toNatClampNeg (x4 + (2 : Int32)))) (xs (Int32.toNatClampNeg (x4 + (3 : Int32))))) (fun v15 S16 => zc_b1 (zf_X11_thrown S16) (fun v17 => (if v17 = k11 then (if k11 = 0 then zc_gi (0 : Int32) 1 ((if (S16.2 59 (Int32.toNatClampNeg (0 : Int32))) = (Int32.toInt64 v15) then zc_lt (x4 + (4 : Int32)) (fun (v19 : Int32) => rec S16 v19) else none)) else zc_lt (x4 + (4 : Int32)) (fun (v18 : Int32) => rec S16 v18)) else none)))))))))))) else if v1 = (2 : Int32) then zc_b3 (zf_X10_encode S) (fun k20 r21 S22 => zc_k2 k20 (zc_lt (zx_o k20 r21 S22) (fun (S23 : zs_T) => zc_lt (if k20 = 2 then 1 else k20) (fun (v24 : Int32) => zc_b2 (zf_X11_encode S23) (fun v25 S26 => zc_b1 (zf_X11_thrown S26) (fun v27 => (if v27 = v24 then (if v24 = 0 then zc_gi (0 : Int32) 1 ((if (S26.2 59 (Int32.toNatClampNeg (0 : Int32))) = (Int32.toInt64 v25) then zc_lt (x4 + (4 : Int32)) (fun (v29 : Int32) => rec S26 v29) else none)) else zc_lt (x4 + (4 : Int32)) (fun (v28 : Int32) => rec S26 v28)) else none))))))) else if v1 = (3 : Int32) then zc_gi (x4 + (1 : Int32)) L (zc_b3 (zf_X10_parameter S (xs (Int32.toNatClampNeg (x4 + (1 : Int32))))) (fun k30 r31 S32 => zc_k1 k30 (zc_lt (zx_o k30 r31 S32) (fun (S33 : zs_T) => zc_gi (x4 + (1 : Int32)) L (zc_b2 (zf_X11_parameter S33 (xs (Int32.toNatClampNeg (x4 + (1 : Int32))))) (fun v34 S35 => zc_b1 (zf_X11_thrown S35) (fun v36 => (if v36 = k30 then (if k30 = 0 then zc_gi (0 : Int32) 1 ((if (S35.2 59 (Int32.toNatClampNeg (0 : Int32))) = (Int32.toInt64 v34) then zc_lt (x4 + (4 : Int32)) (fun (v38 : Int32) => rec S35 v38) else none)) else zc_lt (x4 + (4 : Int32)) (fun (v37 : Int32) => rec S35 v37)) else none)))))))) else if v1 = (4 : Int32) then zc_gi (x4 + (1 : Int32)) L (zc_gi (x4 + (2 : Int32)) L (zc_gi (x4 + (3 : Int32)) L (zc_b3 (zf_X10_feed S (((Int32.toInt64 (xs (Int32.toNatClampNeg (x4 + (1 : Int32))))) <<< (Int32.toInt64 (32 : Int32) &&& 63)) ||| ((Int32.toInt64 (xs (Int32.toNatClampNeg (x4 + (2 : Int32))))) &&& (4294967295 : Int64))) (xs (Int32.toNatClampNeg (x4 + (3 : Int32))))) (fun k39 r40 S41 => zc_k3 k39 (zc_lt (zx_o k39 r40 S41) (fun (S42 : zs_T) => zc_gi (x4 + (1 : Int32)) L (zc_gi (x4 + (2 : Int32)) L (zc_gi (x4 + (3 : Int32)) L (zc_b2 (zf_X11_feed S42 (((Int32.toInt64 (xs (Int32.toNatClampNeg (x4 + (1 : Int32))))) <<< (Int32.toInt64 (32 : Int32) &&& 63)) ||| ((Int32.toInt64 (xs (Int32.toNatClampNeg (x4 + (2 : Int32))))) &&& (4294967295 : Int64))) (xs (Int32.toNatClampNeg (x4 + (3 : Int32))))) (fun v43 S44 => zc_b1 (zf_X11_thrown S44) (fun v45 => (if v45 = k39 then (if k39 = 0 then zc_gi (0 : Int32) 1 ((if (S44.2 59 (Int32.toNatClampNeg (0 : Int32))) = (Int32.toInt64 v43) then zc_lt (x4 + (4 : Int32)) (fun (v47 : Int32) => rec S44 v47) else none)) else zc_lt (x4 + (4 : Int32)) (fun (v46 : Int32) => rec S44 v46)) else none)))))))))))) else if v1 = (5 : Int32) then zc_b2 (zf_X10_take S) (fun v48 S49 => zc_b2 (zf_X11_take S49) (fun v50 S51 => (if v48 = v50 then zc_lt (x4 + (4 : Int32)) (fun (v52 : Int32) => rec S51 v52) else none))) else if v1 = (6 : Int32) then zc_b2 (zf_X10_decode S) (fun v53 S54 => zc_b2 (zf_X11_decode S54) (fun v55 S56 => (if v53 = v55 then zc_lt (x4 + (4 : Int32)) (fun (v57 : Int32) => rec S56 v57) else none))) else if v1 = (7 : Int32) then zc_gi (x4 + (1 : Int32)) L (zc_b1 (zf_X10_hand S (xs (Int32.toNatClampNeg (x4 + (1 : Int32))))) (fun v58 => zc_gi (x4 + (1 : Int32)) L (zc_b2 (zf_X11_hand S (xs (Int32.toNatClampNeg (x4 + (1 : Int32))))) (fun v59 S60 => (if v58 = v59 then zc_lt (x4 + (4 : Int32)) (fun (v61 : Int32) => rec S60 v61) else none))))) else if v1 = (8 : Int32) then zc_gi (x4 + (1 : Int32)) L (zc_b3 (zf_X10_sample S (xs (Int32.toNatClampNeg (x4 + (1 : Int32))))) (fun k62 r63 S64 => zc_k1 k62 (zc_lt (zx_o k62 r63 S64) (fun (S65 : zs_T) => zc_gi (x4 + (1 : Int32)) L (zc_b2 (zf_X11_sample S65 (xs (Int32.toNatClampNeg (x4 + (1 : Int32))))) (fun v66 S67 => zc_b1 (zf_X11_thrown S67) (fun v68 => (if v68 = k62 then (if k62 = 0 then zc_gi (0 : Int32) 1 ((if (S67.2 59 (Int32.toNatClampNeg (0 : Int32))) = (Int32.toInt64 v66) then zc_lt (x4 + (4 : Int32)) (fun (v70 : Int32) => rec S67 v70) else none)) else zc_lt (x4 + (4 : Int32)) (fun (v69 : Int32) => rec S67 v69)) else none)))))))) else if v1 = (9 : Int32) then zc_gi (x4 + (1 : Int32)) L (zc_b3 (zf_X10_reset S (xs (Int32.toNatClampNeg (x4 + (1 : Int32))))) (fun k71 r72 S73 => zc_k1 k71 (zc_lt S73 (fun (S74 : zs_T) => zc_gi (x4 + (1 : Int32)) L (zc_b1 (zf_X11_reset S74 (xs (Int32.toNatClampNeg (x4 + (1 : Int32))))) (fun S75 => zc_b1 (zf_X11_thrown S75) (fun v76 => (if v76 = k71 then zc_lt (x4 + (4 : Int32)) (fun (v77 : Int32) => rec S75 v77) else none)))))))) else if v1 = (10 : Int32) then zc_gi (x4 + (1 : Int32)) L (zc_gi (x4 + (2 : Int32)) L (zc_b3 (zf_X10_state S (xs (Int32.toNatClampNeg (x4 + (1 : Int32)))) (xs (Int32.toNatClampNeg (x4 + (2 : Int32))))) (fun k78 r79 S80 => zc_k1 k78 (zc_lt (zx_o k78 r79 S80) (fun (S81 : zs_T) => zc_gi (x4 + (1 : Int32)) L (zc_gi (x4 + (2 : Int32)) L (zc_b2 (zf_X11_state S81 (xs (Int32.toNatClampNeg (x4 + (1 : Int32)))) (xs (Int32.toNatClampNeg (x4 + (2 : Int32))))) (fun v82 S83 => zc_b1 (zf_X11_thrown S83) (fun v84 => (if v84 = k78 then (if k78 = 0 then zc_gi (0 : Int32) 1 ((if (S83.2 59 (Int32.toNatClampNeg (0 : Int32))) = (Int32.toInt64 v82) then zc_lt (x4 + (4 : Int32)) (fun (v86 : Int32) => rec S83 v86) else none)) else zc_lt (x4 + (4 : Int32)) (fun (v85 : Int32) => rec S83 v85)) else none)))))))))) else if v1 = (11 : Int32) then zc_gi (x4 + (1 : Int32)) L (zc_b3 (zf_X10_about S (xs (Int32.toNatClampNeg (x4 + (1 : Int32))))) (fun k87 r88 S89 => zc_k1 k87 (zc_lt (zx_o k87 r88 S89) (fun (S90 : zs_T) => zc_gi (x4 + (1 : Int32)) L (zc_b2 (zf_X11_about S90 (xs (Int32.toNatClampNeg (x4 + (1 : Int32))))) (fun v91 S92 => zc_b1 (zf_X11_thrown S92) (fun v93 => (if v93 = k87 then (if k87 = 0 then zc_gi (0 : Int32) 1 ((if (S92.2 59 (Int32.toNatClampNeg (0 : Int32))) = (Int32.toInt64 v91) then zc_lt (x4 + (4 : Int32)) (fun (v95 : Int32) => rec S92 v95) else none)) else zc_lt (x4 + (4 : Int32)) (fun (v94 : Int32) => rec S92 v94)) else none)))))))) else zc_lt (x4 + (4 : Int32)) (fun (v96 : Int32) => rec S v96)))))
