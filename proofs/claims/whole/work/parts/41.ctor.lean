theorem zm_l_X10_1 : Cond.methodLink RX10 1 objectInit ∈ zt_G := zt_m 25 (by decide +kernel) (by decide +kernel)
theorem zm_cl_X10_22 : Cond.classLink RX10 22 RX1 ∈ zt_G := zt_m 28 (by decide +kernel) (by decide +kernel)
theorem zm_in_X1 : Cond.instantiable RX1 10 ∈ zt_G := zt_m 29 (by decide +kernel) (by decide +kernel)
theorem zm_l_X1_3 : Cond.methodLink RX1 3 objectInit ∈ zt_G := zt_m 33 (by decide +kernel) (by decide +kernel)
theorem zm_cl_X1_9 : Cond.classLink RX1 9 RX3 ∈ zt_G := zt_m 34 (by decide +kernel) (by decide +kernel)
theorem zm_in_X3 : Cond.instantiable RX3 3 ∈ zt_G := zt_m 35 (by decide +kernel) (by decide +kernel)
theorem zm_l_X3_3 : Cond.methodLink RX3 3 objectInit ∈ zt_G := zt_m 39 (by decide +kernel) (by decide +kernel)
theorem zm_c_X3_init : Cond.code yX3_init cX3_init 1 none ∈ zt_G := zt_m 38 (by decide +kernel) (by decide +kernel)
theorem zm_i_X3_init : Cond.instanceMethod yX3_init ∈ zt_G := zt_m 37 (by decide +kernel) (by decide +kernel)
theorem zm_d_X3_init : yX3_init.cls ≠ "java/lang/invoke/MethodHandle" ∧ yX3_init.cls ≠ "java/lang/invoke/VarHandle" ∧ (parseMethodDescriptor yX3_init.desc).map (fun d => d.parameters.length) = some 0 := by decide +kernel
theorem zm_cl_X1_18 : Cond.classLink RX1 18 RX6 ∈ zt_G := zt_m 51 (by decide +kernel) (by decide +kernel)
theorem zm_in_X6 : Cond.instantiable RX6 5 ∈ zt_G := zt_m 52 (by decide +kernel) (by decide +kernel)
theorem zm_l_X6_3 : Cond.methodLink RX6 3 objectInit ∈ zt_G := zt_m 56 (by decide +kernel) (by decide +kernel)
theorem zm_c_X6_init : Cond.code yX6_init cX6_init 1 none ∈ zt_G := zt_m 55 (by decide +kernel) (by decide +kernel)
theorem zm_i_X6_init : Cond.instanceMethod yX6_init ∈ zt_G := zt_m 54 (by decide +kernel) (by decide +kernel)
theorem zm_d_X6_init : yX6_init.cls ≠ "java/lang/invoke/MethodHandle" ∧ yX6_init.cls ≠ "java/lang/invoke/VarHandle" ∧ (parseMethodDescriptor yX6_init.desc).map (fun d => d.parameters.length) = some 0 := by decide +kernel
theorem zm_l_X1_20 : Cond.methodLink RX1 20 yX6_init ∈ zt_G := zt_m 53 (by decide +kernel) (by decide +kernel)
theorem zm_cl_X1_25 : Cond.classLink RX1 25 RX2 ∈ zt_G := zt_m 73 (by decide +kernel) (by decide +kernel)
theorem zm_in_X2 : Cond.instantiable RX2 3 ∈ zt_G := zt_m 74 (by decide +kernel) (by decide +kernel)
theorem zm_l_X2_3 : Cond.methodLink RX2 3 objectInit ∈ zt_G := zt_m 78 (by decide +kernel) (by decide +kernel)
theorem zm_c_X2_init : Cond.code yX2_init cX2_init 1 none ∈ zt_G := zt_m 77 (by decide +kernel) (by decide +kernel)
theorem zm_i_X2_init : Cond.instanceMethod yX2_init ∈ zt_G := zt_m 76 (by decide +kernel) (by decide +kernel)
theorem zm_d_X2_init : yX2_init.cls ≠ "java/lang/invoke/MethodHandle" ∧ yX2_init.cls ≠ "java/lang/invoke/VarHandle" ∧ (parseMethodDescriptor yX2_init.desc).map (fun d => d.parameters.length) = some 0 := by decide +kernel
theorem zm_l_X1_27 : Cond.methodLink RX1 27 yX2_init ∈ zt_G := zt_m 75 (by decide +kernel) (by decide +kernel)
theorem zm_cl_X1_32 : Cond.classLink RX1 32 RX5 ∈ zt_G := zt_m 92 (by decide +kernel) (by decide +kernel)
theorem zm_in_X5 : Cond.instantiable RX5 2 ∈ zt_G := zt_m 93 (by decide +kernel) (by decide +kernel)
theorem zm_l_X5_3 : Cond.methodLink RX5 3 objectInit ∈ zt_G := zt_m 97 (by decide +kernel) (by decide +kernel)
theorem zm_c_X5_init : Cond.code yX5_init cX5_init 1 none ∈ zt_G := zt_m 96 (by decide +kernel) (by decide +kernel)
theorem zm_i_X5_init : Cond.instanceMethod yX5_init ∈ zt_G := zt_m 95 (by decide +kernel) (by decide +kernel)
theorem zm_d_X5_init : yX5_init.cls ≠ "java/lang/invoke/MethodHandle" ∧ yX5_init.cls ≠ "java/lang/invoke/VarHandle" ∧ (parseMethodDescriptor yX5_init.desc).map (fun d => d.parameters.length) = some 0 := by decide +kernel
theorem zm_l_X1_34 : Cond.methodLink RX1 34 yX5_init ∈ zt_G := zt_m 94 (by decide +kernel) (by decide +kernel)
theorem zm_cl_X1_39 : Cond.classLink RX1 39 RX8 ∈ zt_G := zt_m 109 (by decide +kernel) (by decide +kernel)
theorem zm_in_X8 : Cond.instantiable RX8 3 ∈ zt_G := zt_m 110 (by decide +kernel) (by decide +kernel)
theorem zm_l_X8_3 : Cond.methodLink RX8 3 objectInit ∈ zt_G := zt_m 114 (by decide +kernel) (by decide +kernel)
theorem zm_c_X8_init : Cond.code yX8_init cX8_init 1 none ∈ zt_G := zt_m 113 (by decide +kernel) (by decide +kernel)
theorem zm_i_X8_init : Cond.instanceMethod yX8_init ∈ zt_G := zt_m 112 (by decide +kernel) (by decide +kernel)
theorem zm_d_X8_init : yX8_init.cls ≠ "java/lang/invoke/MethodHandle" ∧ yX8_init.cls ≠ "java/lang/invoke/VarHandle" ∧ (parseMethodDescriptor yX8_init.desc).map (fun d => d.parameters.length) = some 0 := by decide +kernel
theorem zm_l_X1_41 : Cond.methodLink RX1 41 yX8_init ∈ zt_G := zt_m 111 (by decide +kernel) (by decide +kernel)
theorem zm_cl_X1_46 : Cond.classLink RX1 46 RX9 ∈ zt_G := zt_m 127 (by decide +kernel) (by decide +kernel)
theorem zm_in_X9 : Cond.instantiable RX9 4 ∈ zt_G := zt_m 128 (by decide +kernel) (by decide +kernel)
theorem zm_l_X9_3 : Cond.methodLink RX9 3 objectInit ∈ zt_G := zt_m 132 (by decide +kernel) (by decide +kernel)
theorem zm_c_X9_init : Cond.code yX9_init cX9_init 1 none ∈ zt_G := zt_m 131 (by decide +kernel) (by decide +kernel)
theorem zm_i_X9_init : Cond.instanceMethod yX9_init ∈ zt_G := zt_m 130 (by decide +kernel) (by decide +kernel)
theorem zm_d_X9_init : yX9_init.cls ≠ "java/lang/invoke/MethodHandle" ∧ yX9_init.cls ≠ "java/lang/invoke/VarHandle" ∧ (parseMethodDescriptor yX9_init.desc).map (fun d => d.parameters.length) = some 0 := by decide +kernel
theorem zm_l_X1_48 : Cond.methodLink RX1 48 yX9_init ∈ zt_G := zt_m 129 (by decide +kernel) (by decide +kernel)
theorem zm_cl_X1_53 : Cond.classLink RX1 53 RX7 ∈ zt_G := zt_m 149 (by decide +kernel) (by decide +kernel)
theorem zm_in_X7 : Cond.instantiable RX7 3 ∈ zt_G := zt_m 150 (by decide +kernel) (by decide +kernel)
theorem zm_l_X7_3 : Cond.methodLink RX7 3 objectInit ∈ zt_G := zt_m 154 (by decide +kernel) (by decide +kernel)
theorem zm_c_X7_init : Cond.code yX7_init cX7_init 1 none ∈ zt_G := zt_m 153 (by decide +kernel) (by decide +kernel)
theorem zm_i_X7_init : Cond.instanceMethod yX7_init ∈ zt_G := zt_m 152 (by decide +kernel) (by decide +kernel)
theorem zm_d_X7_init : yX7_init.cls ≠ "java/lang/invoke/MethodHandle" ∧ yX7_init.cls ≠ "java/lang/invoke/VarHandle" ∧ (parseMethodDescriptor yX7_init.desc).map (fun d => d.parameters.length) = some 0 := by decide +kernel
theorem zm_l_X1_55 : Cond.methodLink RX1 55 yX7_init ∈ zt_G := zt_m 151 (by decide +kernel) (by decide +kernel)
theorem zm_c_X1_init : Cond.code yX1_init cX1_init 1 none ∈ zt_G := zt_m 32 (by decide +kernel) (by decide +kernel)
theorem zm_i_X1_init : Cond.instanceMethod yX1_init ∈ zt_G := zt_m 31 (by decide +kernel) (by decide +kernel)
theorem zm_d_X1_init : yX1_init.cls ≠ "java/lang/invoke/MethodHandle" ∧ yX1_init.cls ≠ "java/lang/invoke/VarHandle" ∧ (parseMethodDescriptor yX1_init.desc).map (fun d => d.parameters.length) = some 0 := by decide +kernel
theorem zm_l_X10_24 : Cond.methodLink RX10 24 yX1_init ∈ zt_G := zt_m 30 (by decide +kernel) (by decide +kernel)
theorem zm_cl_X10_29 : Cond.classLink RX10 29 RX0 ∈ zt_G := zt_m 203 (by decide +kernel) (by decide +kernel)
theorem zm_in_X0 : Cond.instantiable RX0 7 ∈ zt_G := zt_m 204 (by decide +kernel) (by decide +kernel)
theorem zm_l_X0_3 : Cond.methodLink RX0 3 objectInit ∈ zt_G := zt_m 208 (by decide +kernel) (by decide +kernel)
theorem zm_cl_X0_9 : Cond.classLink RX0 9 RX2 ∈ zt_G := zt_m 209 (by decide +kernel) (by decide +kernel)
theorem zm_l_X0_11 : Cond.methodLink RX0 11 yX2_init ∈ zt_G := zt_m 210 (by decide +kernel) (by decide +kernel)
theorem zm_cl_X0_18 : Cond.classLink RX0 18 RX5 ∈ zt_G := zt_m 211 (by decide +kernel) (by decide +kernel)
theorem zm_l_X0_20 : Cond.methodLink RX0 20 yX5_init ∈ zt_G := zt_m 212 (by decide +kernel) (by decide +kernel)
theorem zm_cl_X0_25 : Cond.classLink RX0 25 RX7 ∈ zt_G := zt_m 213 (by decide +kernel) (by decide +kernel)
theorem zm_l_X0_27 : Cond.methodLink RX0 27 yX7_init ∈ zt_G := zt_m 214 (by decide +kernel) (by decide +kernel)
theorem zm_c_X0_init : Cond.code yX0_init cX0_init 1 none ∈ zt_G := zt_m 207 (by decide +kernel) (by decide +kernel)
theorem zm_i_X0_init : Cond.instanceMethod yX0_init ∈ zt_G := zt_m 206 (by decide +kernel) (by decide +kernel)
theorem zm_d_X0_init : yX0_init.cls ≠ "java/lang/invoke/MethodHandle" ∧ yX0_init.cls ≠ "java/lang/invoke/VarHandle" ∧ (parseMethodDescriptor yX0_init.desc).map (fun d => d.parameters.length) = some 0 := by decide +kernel
theorem zm_l_X10_31 : Cond.methodLink RX10 31 yX0_init ∈ zt_G := zt_m 205 (by decide +kernel) (by decide +kernel)
theorem zm_l_X11_1 : Cond.methodLink RX11 1 objectInit ∈ zt_G := zt_m 734 (by decide +kernel) (by decide +kernel)
/-! constructors: a world that grows, behind any cells X that are there -/
def zi_A (b : Nat) : Nat → Prop := fun x => b ≤ x
def zi_E (D : va_G) (i j : ClassId) (b : Nat) (U : State) : Prop := va_K D vwCl [(i, .int), (j, .long)] U ∧ b ≤ U.heap.size ∧ va_Nw (.methodLinkNest RX1 11 yX3_init "VoiceFrames") U
def zi_P (D : va_G) (i j : ClassId) (b : Nat) (X : va_W) (U : State) : Prop := zi_E D i j b U ∧ va_P D vwCl X U.heap ∧ va_D (zi_A b) X
def zi_W (D : va_G) (b : Nat) (X : va_W) (s : State) (H : Heap) (locs : List Loc) : Prop := va_P D vwCl X H ∧ va_D (zi_A b) X ∧ va_S (zi_A b) s.heap H locs
def zi_C (p : Program) (s : State) (m : MethodId) (args : Array Value) (meth : Method) (c : Code) (D : va_G) (i j : ClassId) (b : Nat) (own : String) (cc : ByteArray) (nL : Nat) : Prop :=
  p.tables.exec = Jvm.exec ∧ c.code = cc ∧ c.maxLocals = nL ∧ s.vm.findClass own = some m.cls ∧ (∀ w ∈ zt_G, w.before args s = true) ∧ meth.locks = false ∧ zi_E D i j b s
def zi_Q (D : va_G) (i j : ClassId) (b : Nat) (F : (Nat → Nat) → va_W) : Array Value → State → Outcome → State → Prop := fun _ st oc t => oc = .returned none ∧ (∃ q, zi_P D i j b (F q) t) ∧ va_F (zi_A b) st t
theorem zi_E.to {D : va_G} {i j : ClassId} {b : Nat} {s U : State} {H : Heap} {locs : List Loc} (h : zi_E D i j b s) (hW : s.WarmedH U.vm) (hS : va_S (zi_A b) s.heap H locs) (hU : U.heap = H) : zi_E D i j b U := ⟨va_K.moved hW.alike h.1, by rw [hU]; exact Nat.le_trans h.2.1 hS.1, h.2.2.warmM hW⟩
theorem zi_P.to {D : va_G} {i j : ClassId} {b : Nat} {X : va_W} {s U : State} {H : Heap} {locs : List Loc} (h : zi_E D i j b s) (w : zi_W D b X s H locs) (hU : U.heap = H) (hW : s.WarmedH U.vm) : zi_P D i j b X U := ⟨h.to hW w.2.2 hU, by rw [hU]; exact w.1, w.2.1⟩
theorem zi_blind {D : va_G} {i j : ClassId} {b : Nat} {X : va_W} {av : List Value} : FrameBlind (va_Pc av (zi_P D i j b X)) := fun _ U g mk h => ⟨h.1, ⟨va_K.moved (u := U) (Vm.Alike.refl U.vm) h.2.1.1, h.2.1.2.1, va_Nw.same (u := U) rfl rfl h.2.1.2.2⟩, h.2.2⟩
theorem zi_at {X Y : va_W} {i : Nat} {e : Nat × va_E} (h : Y[i]? = some e) : (X ++ Y)[X.length + i]? = some e := by
  rw [List.getElem?_append_right (Nat.le_add_right _ _), Nat.add_sub_cancel_left]; exact h
theorem zi_set {X Y : va_W} {i : Nat} {e : Nat × va_E} : (X ++ Y).set (X.length + i) e = X ++ Y.set i e := by
  rw [List.set_append_right _ _ (Nat.le_add_right _ _), Nat.add_sub_cancel_left]
theorem zi_met {l : Launch} {y : MethodName} {cc : ByteArray} {nL : Nat} {rm : Room} {h0 : Nat} {D : va_G} {i j : ClassId} {b : Nat} {X : va_W} {Qc : Array Value → State → Outcome → State → Prop} {mc ms : Nat} {free : Addr → Prop}
    (hy : plainName y.cls = true) (hn : y.name = "<init>") (hvs : 1 ≤ nL)
    (body : ∀ p e s m below meth c, zi_C p s m #[.ref h0] meth c D i j b y.cls cc nL → meth.sig.returnType = none → meth.name = "<init>" → zi_W D b X s s.heap [] → ∀ ls, lv_has ls nL [(0, .ref h0)] →
      W p l e rm s m #[.ref h0] below meth c s.heap [] 0 0 (MQ below Qc #[.ref h0] s mc ms free) (F0 m 0 ls [])) :
    Met l y (Cond.code y cc nL none :: zt_G) rm (va_Pc [.ref h0] (zi_P D i j b X)) Qc mc ms free := by
  refine Met.ofW (cc := cc) (maxL := nL) (ret := none) hy rfl ?_
  intro p e s m args below meth c s₁ B hml hv
  obtain ⟨rfl, hE, hP, hD⟩ := hv
  have hts := atoms_spec (ws := Cond.code y cc nL none :: zt_G) B.pre
  have hl := lv_entry ([.ref h0]) (n := nL) hvs
  rw [lg_entry_eq]
  exact body p e s m below meth c ⟨B.exec, B.bytes, hml, findClass_of_methodNamed B.named, fun w h => hts w (List.mem_cons_of_mem _ h), B.notSynchronized, hE⟩ B.returns ((name_of_methodNamed B.named B.method).1.trans hn) ⟨hP, hD, va_S.rf⟩ _ hl
theorem zi_o0 : Cond.instanceMethod objectInit ∈ zt_G := List.mem_filter.mpr ⟨by decide +kernel, by decide +kernel⟩
theorem zi_o1 : Cond.code objectInit ⟨#[0xb1]⟩ 1 none ∈ zt_G := List.mem_filter.mpr ⟨by decide +kernel, by decide +kernel⟩
theorem zi_a0 : Cond.arrayClass .int ∈ zt_G := List.mem_filter.mpr ⟨by decide +kernel, by decide +kernel⟩
theorem zi_a1 : Cond.arrayClass .long ∈ zt_G := List.mem_filter.mpr ⟨by decide +kernel, by decide +kernel⟩
section ZI
variable {p : Program} {l : Launch} {e : Env} {R : Room} {s : State} {m : MethodId} {args : Array Value} {below : List Frame} {meth : Method} {c : Code} {H : Heap} {locs : List Loc} {cells slots : Nat} {Q : State → Prop}
variable {cc : ByteArray} {pc nL : Nat} {ls : Array Slot} {rest : List Value} {D : va_G} {i j : ClassId} {b : Nat} {X Y : va_W} {own : String}
theorem zi_obj {index a : Nat} (C : zi_C p s m args meth c D i j b own cc nL) (hlink : Cond.methodLink own index objectInit ∈ zt_G) (hl : ls.size = nL) (hdg : decode cc pc = .ok (.invokespecial index, 3)) (hf : 1 ≤ R.frames) (hlo : (rest.map fun v => v.category).sum + 12 ≤ R.locals)
    (kk : W p l e R s m args below meth c H locs cells slots Q (F0 m (pc + 3) ls rest)) : W p l e R s m args below meth c H locs cells slots Q (F0 m pc ls (.ref a :: rest)) :=
  W.objInit C.1 C.2.1 C.2.2.2.1 (C.2.2.2.2.1 _ hlink) (C.2.2.2.2.1 _ zi_o0) (C.2.2.2.2.1 _ zi_o1) rfl (hl.trans C.2.2.1.symm) rfl hdg hf (by show 2 * 0 + _ + 12 ≤ _; omega) kk
theorem zi_new {index N ci : Nat} {C0 : String} {T : u_T} {fs : List Value} (C : zi_C p s m args meth c D i j b own cc nL) (w : zi_W D b (X ++ Y) s H locs) (hin : ∀ w ∈ u_ws C0 T N, w ∈ zt_G) (ty : Nat → FieldType) (hty : ∀ k, k < N → parseFieldDescriptor (T k).2.2.1 = some (ty k)) (hcl : Cond.classLink own index C0 ∈ zt_G) (hinst : Cond.instantiable C0 N ∈ zt_G) (hini : Cond.initialized C0 ∈ zt_G) (hc : vwCl[ci]? = some (C0, T, N)) (hfs : ∀ j, j < N → defaultValue (ty j) = vp_V fs j) (hcells : cells + 1 ≤ R.cells) (hslots : slots + N ≤ R.slots) (hdg : decode cc pc = .ok (.new index, 3))
    (kk : ∀ (q : Nat) (H1 : Heap), zi_W D b (X ++ (Y ++ [(q, .inr (ci, fs))])) s H1 locs → W p l e R s m args below meth c H1 locs (cells + 1) (slots + N) Q (F0 m (pc + 3) ls (.ref q :: rest))) : W p l e R s m args below meth c H locs cells slots Q (F0 m pc ls rest) :=
  va_new C.1 C.2.1 C.2.2.2.2.1 hin ty hty C.2.2.2.1 (C.2.2.2.2.1 _ hcl) (C.2.2.2.2.1 _ hinst) (C.2.2.2.2.1 _ hini) C.2.2.2.2.2.2.1 w.1 w.2.1 w.2.2 (fun q h => Nat.le_trans C.2.2.2.2.2.2.2.1 h) hc hfs hcells hslots hdg (fun q H1 h1 h2 h3 => kk q H1 ⟨by rw [← List.append_assoc]; exact h1, by rw [← List.append_assoc]; exact h2, h3⟩)
theorem zi_newI {n : Int32} {N : Nat} (C : zi_C p s m args meth c D i j b own cc nL) (w : zi_W D b (X ++ Y) s H locs) (hn : ¬ n < 0) (hN : n.toNatClampNeg = N) (hb : N * componentBytes .int ≤ 536870912) (hcells : cells + 1 ≤ R.cells) (hslots : slots + N ≤ R.slots) (hdg : decode cc pc = .ok (.newarray .int, 2))
    (kk : ∀ (q : Nat) (H1 : Heap), zi_W D b (X ++ (Y ++ [(q, .inl (i, N, .inl (fun _ => 0)))])) s H1 locs → W p l e R s m args below meth c H1 locs (cells + 1) (slots + N) Q (F0 m (pc + 2) ls (.ref q :: rest))) : W p l e R s m args below meth c H locs cells slots Q (F0 m pc ls (.int n :: rest)) :=
  va_newa (atype := .int) (ty := .int) (a0 := (N, .inl (fun _ => 0))) C.1 C.2.1 (C.2.2.2.2.1 _ zi_a0) rfl C.2.2.2.2.2.2.1 w.1 w.2.1 w.2.2 (fun q h => Nat.le_trans C.2.2.2.2.2.2.2.1 h) (fun _ => rfl) hn hN hb hcells hslots hdg (fun q cA H1 hK h1 h2 h3 => by
    have e1 := (hK.2 0 _ rfl).2
    have e2 := (hK.2 2 _ rfl).2
    have : cA = i := Option.some.inj (e2.symm.trans e1)
    subst this
    exact kk q H1 ⟨by rw [← List.append_assoc]; exact h1, by rw [← List.append_assoc]; exact h2, h3⟩)
theorem zi_newL {n : Int32} {N : Nat} (C : zi_C p s m args meth c D i j b own cc nL) (w : zi_W D b (X ++ Y) s H locs) (hn : ¬ n < 0) (hN : n.toNatClampNeg = N) (hb : N * componentBytes .long ≤ 536870912) (hcells : cells + 1 ≤ R.cells) (hslots : slots + N ≤ R.slots) (hdg : decode cc pc = .ok (.newarray .long, 2))
    (kk : ∀ (q : Nat) (H1 : Heap), zi_W D b (X ++ (Y ++ [(q, .inl (j, N, .inr (.inl (fun _ => 0))))])) s H1 locs → W p l e R s m args below meth c H1 locs (cells + 1) (slots + N) Q (F0 m (pc + 2) ls (.ref q :: rest))) : W p l e R s m args below meth c H locs cells slots Q (F0 m pc ls (.int n :: rest)) :=
  va_newa (atype := .long) (ty := .long) (a0 := (N, .inr (.inl (fun _ => 0)))) C.1 C.2.1 (C.2.2.2.2.1 _ zi_a1) rfl C.2.2.2.2.2.2.1 w.1 w.2.1 w.2.2 (fun q h => Nat.le_trans C.2.2.2.2.2.2.2.1 h) (fun _ => rfl) hn hN hb hcells hslots hdg (fun q cA H1 hK h1 h2 h3 => by
    have e1 := (hK.2 1 _ rfl).2
    have e2 := (hK.2 2 _ rfl).2
    have : cA = j := Option.some.inj (e2.symm.trans e1)
    subst this
    exact kk q H1 ⟨by rw [← List.append_assoc]; exact h1, by rw [← List.append_assoc]; exact h2, h3⟩)
theorem zi_putF {a ci N index : Nat} {fs : List Value} {C0 : String} {T : u_T} (C : zi_C p s m args meth c D i j b own cc nL) (hin2 : meth.name = "<init>") (w : zi_W D b (X ++ Y) s H locs) (k : Nat) (hin : ∀ w ∈ u_ws C0 T N, w ∈ zt_G) (ty0 : Nat → FieldType) (hty : ∀ k, k < N → parseFieldDescriptor (T k).2.2.1 = some (ty0 k)) (hnm : ∀ a, a < N → ∀ b, b < N → a ≠ b → (T a).2.1 ≠ (T b).2.1) (he : Y[k]? = some (a, .inr (ci, fs))) (hc : vwCl[ci]? = some (C0, T, N)) (f : Nat) (hf : f < N) (hlink : Cond.fieldLink own index (T f).1 (T f).2.1 (T f).2.2.1 ∈ zt_G) (hfin : (T f).2.2.2 = true) (hdecl : (T f).1 = own) {ty : FieldType} {v : Value} (hd : parseFieldDescriptor (T f).2.2.1 = some ty) (hn : narrow ty v = v) (hfit : fits ty v = true) (hl : f < fs.length) (hdg : decode cc pc = .ok (.putfield index, 3))
    (kk : ∀ (H1 : Heap) (locs1 : List Loc), zi_W D b (X ++ Y.set k (a, .inr (ci, fs.set f v))) s H1 locs1 → W p l e R s m args below meth c H1 locs1 cells slots Q (F0 m (pc + 3) ls rest)) : W p l e R s m args below meth c H locs cells slots Q (F0 m pc ls (v :: .ref a :: rest)) :=
  va_putF C.1 C.2.1 C.2.2.2.2.1 hin ty0 hty hnm C.2.2.2.1 C.2.2.2.2.2.2.1 w.1 w.2.1 w.2.2 (X.length + k) (zi_at he) hc f hf (C.2.2.2.2.1 _ hlink) (fun _ h => h) hfin hin2 hdecl hd hn hfit hl hdg (fun H1 locs1 h1 h2 h3 => kk H1 locs1 ⟨by rw [← zi_set]; exact h1, by rw [← zi_set]; exact h2, h3⟩)
theorem zi_put {a ci N index : Nat} {fs : List Value} {C0 : String} {T : u_T} (C : zi_C p s m args meth c D i j b own cc nL) (w : zi_W D b (X ++ Y) s H locs) (k : Nat) (hin : ∀ w ∈ u_ws C0 T N, w ∈ zt_G) (ty0 : Nat → FieldType) (hty : ∀ k, k < N → parseFieldDescriptor (T k).2.2.1 = some (ty0 k)) (hnm : ∀ a, a < N → ∀ b, b < N → a ≠ b → (T a).2.1 ≠ (T b).2.1) (he : Y[k]? = some (a, .inr (ci, fs))) (hc : vwCl[ci]? = some (C0, T, N)) (f : Nat) (hf : f < N) (hlink : Cond.fieldLink own index (T f).1 (T f).2.1 (T f).2.2.1 ∈ zt_G) (hfin : (T f).2.2.2 = false) {ty : FieldType} {v : Value} (hd : parseFieldDescriptor (T f).2.2.1 = some ty) (hn : narrow ty v = v) (hfit : fits ty v = true) (hl : f < fs.length) (hdg : decode cc pc = .ok (.putfield index, 3))
    (kk : ∀ (H1 : Heap) (locs1 : List Loc), zi_W D b (X ++ Y.set k (a, .inr (ci, fs.set f v))) s H1 locs1 → W p l e R s m args below meth c H1 locs1 cells slots Q (F0 m (pc + 3) ls rest)) : W p l e R s m args below meth c H locs cells slots Q (F0 m pc ls (v :: .ref a :: rest)) :=
  va_put C.1 C.2.1 C.2.2.2.2.1 hin ty0 hty hnm C.2.2.2.1 C.2.2.2.2.2.2.1 w.1 w.2.1 w.2.2 (X.length + k) (zi_at he) hc f hf (C.2.2.2.2.1 _ hlink) (fun _ h => h) hfin hd hn hfit hl hdg (fun H1 locs1 h1 h2 h3 => kk H1 locs1 ⟨by rw [← zi_set]; exact h1, by rw [← zi_set]; exact h2, h3⟩)
theorem zi_run {mc ms : Nat} {F : (Nat → Nat) → va_W} {Y0 : va_W} {st0 : List Value} {a : Array Value} (hr : va_Run p l e R s m args below meth c H locs cells slots mc ms (F0 m pc ls st0) rest (zi_Q D i j b (fun q => (X ++ Y0) ++ F q) a) (zi_A b)) {Z : va_W} (w : zi_W D b Z s H locs)
    (kk : ∀ (q : Nat → Nat) (H1 : Heap) (locs1 : List Loc), zi_W D b (X ++ (Y0 ++ F q)) s H1 locs1 → W p l e R s m args below meth c H1 locs1 (cells + mc) (slots + ms) Q (F0 m (pc + 3) ls rest)) : W p l e R s m args below meth c H locs cells slots Q (F0 m pc ls st0) := by
  intro T hT Xs
  obtain ⟨v', st₀, t, T', L, h0, X', hL, e1, e2, ⟨hv, ⟨q, -, hP, hD⟩, hz, hk⟩, st⟩ := hr T hT Xs
  cases hv
  rw [h0] at hz hk
  replace hP : va_P D vwCl (X ++ (Y0 ++ F q)) t.heap := by rw [← List.append_assoc]; exact hP
  replace hD : va_D (zi_A b) (X ++ (Y0 ++ F q)) := by rw [← List.append_assoc]; exact hD
  obtain ⟨t2, a1, b1⟩ := kk q T'.heap (locs ++ L) ⟨by rw [e1]; exact hP, hD, Nat.le_trans w.2.2.1 (by rw [e1]; exact hz), fun q h1 h2 => by
      rw [e1, hk q (Nat.lt_of_lt_of_le h1 w.2.2.1) h2]; exact w.2.2.2.1 q h1 h2, fun q hq => by
      rcases List.mem_append.mp hq with h | h
      · exact w.2.2.2.2 q h
      · exact hL q h⟩ T' rfl X'
  exact ⟨t2, st t2 a1, b1⟩
theorem zi_call {mc ms maxL index a : Nat} {y : MethodName} {bytes : ByteArray} {rm : Room} {F : (Nat → Nat) → va_W} {Y0 : va_W} {E : va_E} (C : zi_C p s m args meth c D i j b own cc nL) (w : zi_W D b (X ++ (Y0 ++ [(a, E)])) s H locs)
    (hM : Met l y (Cond.code y bytes maxL none :: zt_G) rm (va_Pc [.ref a] (zi_P D i j b ((X ++ Y0) ++ [(a, E)]))) (zi_Q D i j b (fun q => (X ++ Y0) ++ F q)) mc ms (zi_A b)) (hcode : Cond.code y bytes maxL none ∈ zt_G) (hlink : Cond.methodLink own index y ∈ zt_G) (hinst : Cond.instanceMethod y ∈ zt_G) (hini : Cond.initialized y.cls ∈ zt_G) (hy1 : y.name = "<init>")
    (hd : y.cls ≠ "java/lang/invoke/MethodHandle" ∧ y.cls ≠ "java/lang/invoke/VarHandle" ∧ (parseMethodDescriptor y.desc).map (fun d => d.parameters.length) = some 0) (hrm : rm.cells = mc ∧ rm.slots = ms) (hR : rm.frames + 1 ≤ R.frames ∧ 8 + (maxL + 11) + rm.locals ≤ R.locals) (hl : ls.size = nL) (hw : (rest.map fun v => v.category).sum ≤ 8) (hdg : decode cc pc = .ok (.invokespecial index, 3)) (hf : cells + mc ≤ R.cells ∧ slots + ms ≤ R.slots)
    (kk : ∀ (q : Nat → Nat) (H1 : Heap) (locs1 : List Loc), zi_W D b (X ++ (Y0 ++ F q)) s H1 locs1 → W p l e R s m args below meth c H1 locs1 (cells + mc) (slots + ms) Q (F0 m (pc + 3) ls rest)) : W p l e R s m args below meth c H locs cells slots Q (F0 m pc ls (.ref a :: rest)) :=
  zi_run (va_runI (As := []) (rest := rest) (nL := nL) (n := 0) ⟨C.1, C.2.1, C.2.2.1, C.2.2.2.1, C.2.2.2.2.1⟩ hM (cwI 0 C.2.2.2.2.1 (zt_in hcode) rfl hrm.1 hrm.2 (C.2.2.2.2.1 _ hini) (C.2.2.2.2.1 _ hlink) (C.2.2.2.2.1 _ hinst) hy1 hd hR)
    ⟨zi_blind, fun U hU hW => ⟨rfl, by rw [List.append_assoc]; exact zi_P.to C.2.2.2.2.2.2 w hU hW⟩⟩ rfl rfl hl rfl (by show 2 * 0 + _ ≤ 8; omega) hdg hf) w kk
theorem zi_callN {mc ms maxL a : Nat} {bytes : ByteArray} {rm : Room} {F : (Nat → Nat) → va_W} {Y0 : va_W} {E : va_E} (C : zi_C p s m args meth c D i j b RX1 cc nL) (w : zi_W D b (X ++ (Y0 ++ [(a, E)])) s H locs)
    (hM : Met l yX3_init (Cond.code yX3_init bytes maxL none :: zt_G) rm (va_Pc [.ref a] (zi_P D i j b ((X ++ Y0) ++ [(a, E)]))) (zi_Q D i j b (fun q => (X ++ Y0) ++ F q)) mc ms (zi_A b)) (hcode : Cond.code yX3_init bytes maxL none ∈ zt_G) (hinst : Cond.instanceMethod yX3_init ∈ zt_G) (hini : Cond.initialized yX3_init.cls ∈ zt_G)
    (hd : yX3_init.cls ≠ "java/lang/invoke/MethodHandle" ∧ yX3_init.cls ≠ "java/lang/invoke/VarHandle" ∧ (parseMethodDescriptor yX3_init.desc).map (fun d => d.parameters.length) = some 0) (hrm : rm.cells = mc ∧ rm.slots = ms) (hR : rm.frames + 1 ≤ R.frames ∧ 8 + (maxL + 11) + rm.locals ≤ R.locals) (hl : ls.size = nL) (hw : (rest.map fun v => v.category).sum ≤ 8) (hdg : decode cc pc = .ok (.invokespecial 11, 3)) (hf : cells + mc ≤ R.cells ∧ slots + ms ≤ R.slots)
    (kk : ∀ (q : Nat → Nat) (H1 : Heap) (locs1 : List Loc), zi_W D b (X ++ (Y0 ++ F q)) s H1 locs1 → W p l e R s m args below meth c H1 locs1 (cells + mc) (slots + ms) Q (F0 m (pc + 3) ls rest)) : W p l e R s m args below meth c H locs cells slots Q (F0 m pc ls (.ref a :: rest)) :=
  zi_run (va_runIN (As := []) (rest := rest) (nL := nL) (n := 0) ⟨C.1, C.2.1, C.2.2.1, C.2.2.2.1, C.2.2.2.2.1⟩ hM ⟨va_cnB 0 C.2.2.2.2.1 (zt_in hcode) rfl hrm.1 hrm.2 C.2.2.2.2.2.2.2.2 (C.2.2.2.2.1 _ hini) hd hR, rfl, C.2.2.2.2.1 _ hinst⟩
    ⟨zi_blind, fun U hU hW => ⟨rfl, by rw [List.append_assoc]; exact zi_P.to C.2.2.2.2.2.2 w hU hW⟩⟩ rfl rfl hl rfl (by show 2 * 0 + _ ≤ 8; omega) hdg hf) w kk
theorem zi_ret {F : (Nat → Nat) → va_W} {Z : va_W} (C : zi_C p s m args meth c D i j b own cc nL) (w : zi_W D b Z s H locs) (hr : meth.sig.returnType = none) (q : Nat → Nat) (hq : Z = F q) (hdg : decode cc pc = .ok (.return_, 1)) : W p l e R s m args below meth c H locs cells slots (MQ below (zi_Q D i j b F) args s cells slots (zi_A b)) (F0 m pc ls []) := by
  subst hq
  exact W.vret C.1 C.2.1 hr (fun t ht hW => ⟨rfl, ⟨q, zi_P.to C.2.2.2.2.2.2 w ht hW⟩, w.2.2.F ht⟩) w.2.2.2.2 hdg C.2.2.2.2.2.1
end ZI
