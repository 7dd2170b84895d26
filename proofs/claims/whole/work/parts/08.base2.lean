/-! more rows -/
theorem zc_lt_x {α β : Type} {x : α} {f : α → β} {o : β} (h : zc_lt x f = o) : ∃ v, v = x ∧ f v = o := ⟨x, rfl, h⟩
def zc_s0 {R : Type} (x : Option (Unit ⊕ R)) (f : Option R) : Option R := x.bind (fun o => match o with
  | .inl _ => f
  | .inr r => some r)
def zc_s1 {A R : Type} (x : Option (A ⊕ R)) (f : A → Option R) : Option R := x.bind (fun o => match o with
  | .inl a => f a
  | .inr r => some r)
def zc_s2 {A B R : Type} (x : Option ((A × B) ⊕ R)) (f : A → B → Option R) : Option R := x.bind (fun o => match o with
  | .inl a => f a.1 a.2
  | .inr r => some r)
def zc_s3 {A B C R : Type} (x : Option ((A × B × C) ⊕ R)) (f : A → B → C → Option R) : Option R := x.bind (fun o => match o with
  | .inl a => f a.1 a.2.1 a.2.2
  | .inr r => some r)
theorem zc_s0_x {R : Type} {x : Option (Unit ⊕ R)} {f : Option R} {r : R} (h : zc_s0 x f = some r) : ∃ o, x = some o ∧ (o = .inl () → f = some r) ∧ ∀ r1, o = .inr r1 → r1 = r := by
  cases x with
  | none => cases h
  | some o =>
    refine ⟨o, rfl, ?_, ?_⟩
    · intro e; subst e; exact h
    · intro r1 e; subst e; exact Option.some.inj h
theorem zc_s1_x {A R : Type} {x : Option (A ⊕ R)} {f : A → Option R} {r : R} (h : zc_s1 x f = some r) : ∃ o, x = some o ∧ (∀ a, o = .inl a → f a = some r) ∧ ∀ r1, o = .inr r1 → r1 = r := by
  cases x with
  | none => cases h
  | some o =>
    refine ⟨o, rfl, ?_, ?_⟩
    · intro a e; subst e; exact h
    · intro r1 e; subst e; exact Option.some.inj h
theorem zc_s2_x {A B R : Type} {x : Option ((A × B) ⊕ R)} {f : A → B → Option R} {r : R} (h : zc_s2 x f = some r) : ∃ o, x = some o ∧ (∀ a b, o = .inl (a, b) → f a b = some r) ∧ ∀ r1, o = .inr r1 → r1 = r := by
  cases x with
  | none => cases h
  | some o =>
    refine ⟨o, rfl, ?_, ?_⟩
    · intro a b e; subst e; exact h
    · intro r1 e; subst e; exact Option.some.inj h
theorem zc_s3_x {A B C R : Type} {x : Option ((A × B × C) ⊕ R)} {f : A → B → C → Option R} {r : R} (h : zc_s3 x f = some r) : ∃ o, x = some o ∧ (∀ a b c, o = .inl (a, b, c) → f a b c = some r) ∧ ∀ r1, o = .inr r1 → r1 = r := by
  cases x with
  | none => cases h
  | some o =>
    refine ⟨o, rfl, ?_, ?_⟩
    · intro a b c e; subst e; exact h
    · intro r1 e; subst e; exact Option.some.inj h
section ZR2
variable {p : Program} {l : Launch} {e : Env} {R : Room} {s : State} {m : MethodId} {args : Array Value} {below : List Frame} {meth : Method} {c : Code} {H : Heap} {locs : List Loc} {cells slots : Nat} {Q : State → Prop}
variable {cc : ByteArray} {pc nL : Nat} {ls : Array Slot} {rest : List Value} {G : zg_T} {S : zs_T} {own : String} {α β : Type}
theorem zr_callSi {y : MethodName} {bytes : ByteArray} {maxL n index : Nat} {ret : Option FieldType} {rm : Room} {v : Int32} {S1 : zs_T} {As st0 : List Value} (C : zx_C p s m args meth c G own cc nL) (w : zg_W G S s H locs)
    (hM : Met l y (Cond.code y bytes maxL ret :: zt_G) rm (va_Pc As (zg_P G S)) (zg_Q G (some (.int v)) S1) 0 0 (zg_A G)) (hcode : Cond.code y bytes maxL ret ∈ zt_G) (hlink : Cond.methodLink own index y ∈ zt_G) (hstat : Cond.static y ∈ zt_G) (hini : Cond.initialized y.cls ∈ zt_G)
    (hd : y.cls ≠ "java/lang/invoke/MethodHandle" ∧ y.cls ≠ "java/lang/invoke/VarHandle" ∧ (parseMethodDescriptor y.desc).map (fun d => d.parameters.length) = some n) (hrm : rm.cells = 0 ∧ rm.slots = 0) (hR : rm.frames + 1 ≤ R.frames ∧ 8 + (maxL + 11) + rm.locals ≤ R.locals)
    (hl : ls.size = nL) (hn : As.length = n) (hst : st0 = As.reverse ++ rest) (hw : (rest.map fun v => v.category).sum ≤ 8) (hdg : decode cc pc = .ok (.invokestatic index, 3)) (hf : cells ≤ R.cells ∧ slots ≤ R.slots)
    (kk : ∀ (H1 : Heap) (locs1 : List Loc), zg_W G S1 s H1 locs1 → W p l e R s m args below meth c H1 locs1 cells slots Q (F0 m (pc + 3) ls (.int v :: rest))) : W p l e R s m args below meth c H locs cells slots Q (F0 m pc ls st0) :=
  zr_callS C w hM hcode hlink hstat hini hd hrm hR hl hn hst hw hdg hf kk
theorem zr_callSl {y : MethodName} {bytes : ByteArray} {maxL n index : Nat} {ret : Option FieldType} {rm : Room} {v : Int64} {S1 : zs_T} {As st0 : List Value} (C : zx_C p s m args meth c G own cc nL) (w : zg_W G S s H locs)
    (hM : Met l y (Cond.code y bytes maxL ret :: zt_G) rm (va_Pc As (zg_P G S)) (zg_Q G (some (.long v)) S1) 0 0 (zg_A G)) (hcode : Cond.code y bytes maxL ret ∈ zt_G) (hlink : Cond.methodLink own index y ∈ zt_G) (hstat : Cond.static y ∈ zt_G) (hini : Cond.initialized y.cls ∈ zt_G)
    (hd : y.cls ≠ "java/lang/invoke/MethodHandle" ∧ y.cls ≠ "java/lang/invoke/VarHandle" ∧ (parseMethodDescriptor y.desc).map (fun d => d.parameters.length) = some n) (hrm : rm.cells = 0 ∧ rm.slots = 0) (hR : rm.frames + 1 ≤ R.frames ∧ 8 + (maxL + 11) + rm.locals ≤ R.locals)
    (hl : ls.size = nL) (hn : As.length = n) (hst : st0 = As.reverse ++ rest) (hw : (rest.map fun v => v.category).sum ≤ 8) (hdg : decode cc pc = .ok (.invokestatic index, 3)) (hf : cells ≤ R.cells ∧ slots ≤ R.slots)
    (kk : ∀ (H1 : Heap) (locs1 : List Loc), zg_W G S1 s H1 locs1 → W p l e R s m args below meth c H1 locs1 cells slots Q (F0 m (pc + 3) ls (.long v :: rest))) : W p l e R s m args below meth c H locs cells slots Q (F0 m pc ls st0) :=
  zr_callS C w hM hcode hlink hstat hini hd hrm hR hl hn hst hw hdg hf kk
theorem zr_callSv {y : MethodName} {bytes : ByteArray} {maxL n index : Nat} {ret : Option FieldType} {rm : Room} {S1 : zs_T} {As st0 : List Value} (C : zx_C p s m args meth c G own cc nL) (w : zg_W G S s H locs)
    (hM : Met l y (Cond.code y bytes maxL ret :: zt_G) rm (va_Pc As (zg_P G S)) (zg_Q G none S1) 0 0 (zg_A G)) (hcode : Cond.code y bytes maxL ret ∈ zt_G) (hlink : Cond.methodLink own index y ∈ zt_G) (hstat : Cond.static y ∈ zt_G) (hini : Cond.initialized y.cls ∈ zt_G)
    (hd : y.cls ≠ "java/lang/invoke/MethodHandle" ∧ y.cls ≠ "java/lang/invoke/VarHandle" ∧ (parseMethodDescriptor y.desc).map (fun d => d.parameters.length) = some n) (hrm : rm.cells = 0 ∧ rm.slots = 0) (hR : rm.frames + 1 ≤ R.frames ∧ 8 + (maxL + 11) + rm.locals ≤ R.locals)
    (hl : ls.size = nL) (hn : As.length = n) (hst : st0 = As.reverse ++ rest) (hw : (rest.map fun v => v.category).sum ≤ 8) (hdg : decode cc pc = .ok (.invokestatic index, 3)) (hf : cells ≤ R.cells ∧ slots ≤ R.slots)
    (kk : ∀ (H1 : Heap) (locs1 : List Loc), zg_W G S1 s H1 locs1 → W p l e R s m args below meth c H1 locs1 cells slots Q (F0 m (pc + 3) ls rest)) : W p l e R s m args below meth c H locs cells slots Q (F0 m pc ls st0) :=
  zr_callS C w hM hcode hlink hstat hini hd hrm hR hl hn hst hw hdg hf kk
theorem zr_callVi {y : MethodName} {bytes : ByteArray} {maxL n index : Nat} {ret : Option FieldType} {rm : Room} {v : Int32} {S1 : zs_T} {As st0 : List Value} (C : zx_C p s m args meth c G own cc nL) (w : zg_W G S s H locs) (k : Nat) {ci N : Nat} {fs : List Value} {T : u_T} (hk : (zw_L G S)[k]? = some (zg_q G k, .inr (ci, fs))) (hc : vwCl[ci]? = some (y.cls, T, N))
    (hM : Met l y (Cond.code y bytes maxL ret :: zt_G) rm (va_Pc (.ref (zg_q G k) :: As) (zg_P G S)) (zg_Q G (some (.int v)) S1) 0 0 (zg_A G)) (hcode : Cond.code y bytes maxL ret ∈ zt_G) (hlink : Cond.methodLink own index y ∈ zt_G) (hinst : Cond.instanceMethod y ∈ zt_G) (hsel : Cond.selects y.cls y y ∈ zt_G) (hini : Cond.initialized y.cls ∈ zt_G)
    (hd : y.cls ≠ "java/lang/invoke/MethodHandle" ∧ y.cls ≠ "java/lang/invoke/VarHandle" ∧ (parseMethodDescriptor y.desc).map (fun d => d.parameters.length) = some n) (hrm : rm.cells = 0 ∧ rm.slots = 0) (hR : rm.frames + 1 ≤ R.frames ∧ 8 + (maxL + 11) + rm.locals ≤ R.locals)
    (hl : ls.size = nL) (hn : As.length = n) (hst : st0 = As.reverse ++ .ref (zg_q G k) :: rest) (hw : (rest.map fun v => v.category).sum ≤ 8) (hdg : decode cc pc = .ok (.invokevirtual index, 3)) (hf : cells ≤ R.cells ∧ slots ≤ R.slots)
    (kk : ∀ (H1 : Heap) (locs1 : List Loc), zg_W G S1 s H1 locs1 → W p l e R s m args below meth c H1 locs1 cells slots Q (F0 m (pc + 3) ls (.int v :: rest))) : W p l e R s m args below meth c H locs cells slots Q (F0 m pc ls st0) :=
  zr_callV C w k hk hc hM hcode hlink hinst hsel hini hd hrm hR hl hn hst hw hdg hf kk
theorem zr_callVl {y : MethodName} {bytes : ByteArray} {maxL n index : Nat} {ret : Option FieldType} {rm : Room} {v : Int64} {S1 : zs_T} {As st0 : List Value} (C : zx_C p s m args meth c G own cc nL) (w : zg_W G S s H locs) (k : Nat) {ci N : Nat} {fs : List Value} {T : u_T} (hk : (zw_L G S)[k]? = some (zg_q G k, .inr (ci, fs))) (hc : vwCl[ci]? = some (y.cls, T, N))
    (hM : Met l y (Cond.code y bytes maxL ret :: zt_G) rm (va_Pc (.ref (zg_q G k) :: As) (zg_P G S)) (zg_Q G (some (.long v)) S1) 0 0 (zg_A G)) (hcode : Cond.code y bytes maxL ret ∈ zt_G) (hlink : Cond.methodLink own index y ∈ zt_G) (hinst : Cond.instanceMethod y ∈ zt_G) (hsel : Cond.selects y.cls y y ∈ zt_G) (hini : Cond.initialized y.cls ∈ zt_G)
    (hd : y.cls ≠ "java/lang/invoke/MethodHandle" ∧ y.cls ≠ "java/lang/invoke/VarHandle" ∧ (parseMethodDescriptor y.desc).map (fun d => d.parameters.length) = some n) (hrm : rm.cells = 0 ∧ rm.slots = 0) (hR : rm.frames + 1 ≤ R.frames ∧ 8 + (maxL + 11) + rm.locals ≤ R.locals)
    (hl : ls.size = nL) (hn : As.length = n) (hst : st0 = As.reverse ++ .ref (zg_q G k) :: rest) (hw : (rest.map fun v => v.category).sum ≤ 8) (hdg : decode cc pc = .ok (.invokevirtual index, 3)) (hf : cells ≤ R.cells ∧ slots ≤ R.slots)
    (kk : ∀ (H1 : Heap) (locs1 : List Loc), zg_W G S1 s H1 locs1 → W p l e R s m args below meth c H1 locs1 cells slots Q (F0 m (pc + 3) ls (.long v :: rest))) : W p l e R s m args below meth c H locs cells slots Q (F0 m pc ls st0) :=
  zr_callV C w k hk hc hM hcode hlink hinst hsel hini hd hrm hR hl hn hst hw hdg hf kk
theorem zr_callVv {y : MethodName} {bytes : ByteArray} {maxL n index : Nat} {ret : Option FieldType} {rm : Room} {S1 : zs_T} {As st0 : List Value} (C : zx_C p s m args meth c G own cc nL) (w : zg_W G S s H locs) (k : Nat) {ci N : Nat} {fs : List Value} {T : u_T} (hk : (zw_L G S)[k]? = some (zg_q G k, .inr (ci, fs))) (hc : vwCl[ci]? = some (y.cls, T, N))
    (hM : Met l y (Cond.code y bytes maxL ret :: zt_G) rm (va_Pc (.ref (zg_q G k) :: As) (zg_P G S)) (zg_Q G none S1) 0 0 (zg_A G)) (hcode : Cond.code y bytes maxL ret ∈ zt_G) (hlink : Cond.methodLink own index y ∈ zt_G) (hinst : Cond.instanceMethod y ∈ zt_G) (hsel : Cond.selects y.cls y y ∈ zt_G) (hini : Cond.initialized y.cls ∈ zt_G)
    (hd : y.cls ≠ "java/lang/invoke/MethodHandle" ∧ y.cls ≠ "java/lang/invoke/VarHandle" ∧ (parseMethodDescriptor y.desc).map (fun d => d.parameters.length) = some n) (hrm : rm.cells = 0 ∧ rm.slots = 0) (hR : rm.frames + 1 ≤ R.frames ∧ 8 + (maxL + 11) + rm.locals ≤ R.locals)
    (hl : ls.size = nL) (hn : As.length = n) (hst : st0 = As.reverse ++ .ref (zg_q G k) :: rest) (hw : (rest.map fun v => v.category).sum ≤ 8) (hdg : decode cc pc = .ok (.invokevirtual index, 3)) (hf : cells ≤ R.cells ∧ slots ≤ R.slots)
    (kk : ∀ (H1 : Heap) (locs1 : List Loc), zg_W G S1 s H1 locs1 → W p l e R s m args below meth c H1 locs1 cells slots Q (F0 m (pc + 3) ls rest)) : W p l e R s m args below meth c H locs cells slots Q (F0 m pc ls st0) :=
  zr_callV C w k hk hc hM hcode hlink hinst hsel hini hd hrm hR hl hn hst hw hdg hf kk
theorem zr_copy (C : zx_C p s m args meth c G own cc nL) (w : zg_W G S s H locs) (k : Nat) {n index : Nat} (hk : (zw_L G S)[k]? = some (zg_q G k, .inl (zg_I G, n, .inl (S.1 k)))) (hs : ∀ f, (zw_L G S).set k (zg_q G k, .inl (zg_I G, n, .inl f)) = zw_L G (zs_ri S k f))
    (hlink : Cond.methodLink own index arraycopyName ∈ zt_G) (hnat : Cond.native arraycopyName ∈ zt_G) (hstat : Cond.static arraycopyName ∈ zt_G) (hini : Cond.initialized "java/lang/System" ∈ zt_G) {sp dp q : Int32} (h1 : ¬ sp < 0) (h2 : ¬ dp < 0) (h3 : ¬ q < 0) (h4 : sp.toNatClampNeg + q.toNatClampNeg ≤ n) (h5 : dp.toNatClampNeg + q.toNatClampNeg ≤ n)
    (hl : ls.size = nL) (hf : 1 ≤ R.frames) (hlo : (rest.map fun v => v.category).sum + (nativeFrameWords "java/lang/System" "arraycopy" 5 + 11) ≤ R.locals) (hdg : decode cc pc = .ok (.invokestatic index, 3)) {f : zs_T → β} {o : β} (h : zc_lt (zs_ri S k (va_cpy (S.1 k) (S.1 k) sp.toNatClampNeg dp.toNatClampNeg q.toNatClampNeg)) f = o)
    (kk : ∀ (S1 : zs_T) (H1 : Heap) (locs1 : List Loc), zg_W G S1 s H1 locs1 → f S1 = o → W p l e R s m args below meth c H1 locs1 cells slots Q (F0 m (pc + 3) ls rest)) : W p l e R s m args below meth c H locs cells slots Q (F0 m pc ls (.int q :: .int dp :: .ref (zg_q G k) :: .int sp :: .ref (zg_q G k) :: rest)) :=
  va_copyi C.1 C.2.1 (C.2.2.1.trans hl.symm) C.2.2.2.1 (C.2.2.2.2.1 _ hlink) (C.2.2.2.2.1 _ hnat) (C.2.2.2.2.1 _ hstat) (C.2.2.2.2.1 _ hini) C.2.2.2.2.2.2.1 w.1 w.2.1 w.2.2 k k 0 0 hk hk rfl rfl rfl h1 h2 h3 h4 h5 (fun _ _ => rfl) hf hlo hdg
    (fun H1 locs1 a b d => kk _ H1 locs1 ⟨by rw [← hs]; exact a, by rw [← hs]; exact b, d⟩ h)
theorem zr_retz (C : zx_C p s m args meth c G own cc nL) (w : zg_W G S s H locs) (hr : meth.sig.returnType = some .boolean) (hdg : decode cc pc = .ok (.ireturn, 1)) {v : Int32} {v1 : Int32} {S1 : zs_T} (hn : narrow .boolean (.int v) = .int v) (hv : v = v1) (hS : S = S1) : W p l e R s m args below meth c H locs cells slots (MQ below (zg_Q G (some (.int v1)) S1) args s cells slots (zg_A G)) (F0 m pc ls [.int v]) := by
  subst hv; subst hS
  exact W.zret C.1 C.2.1 hr hn (fun t ht hW => ⟨rfl, zg_P.to C.2.2.2.2.2.2 w ht hW, w.2.2.F ht⟩) w.2.2.2.2 hdg C.2.2.2.2.2.1
end ZR2
