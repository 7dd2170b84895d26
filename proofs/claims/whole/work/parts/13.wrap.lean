/-! the law's wrappers: a call that may throw, caught -/
theorem zx_metW {l : Launch} {y : MethodName} {cc : ByteArray} {nL : Nat} {ret : Option FieldType} {hh : List (Nat × Nat × Nat × Nat)} {rm : Room} {vs : List Value} {G : zg_T} {S : zs_T} {Qc : Array Value → State → Outcome → State → Prop} {mc ms : Nat} {free : Addr → Prop}
    (hy : plainName y.cls = true) (hvs : (lg_sl vs).length ≤ nL) {lv : List (Nat × Value)} (hlv : lv_args 0 vs = lv)
    (body : ∀ p e s m below meth c, zx_C p s m vs.toArray meth c G y.cls cc nL → meth.sig.returnType = ret → c.exceptionTable.toList = tableOf hh → zg_W G S s s.heap [] → ∀ ls, lv_has ls nL lv →
      W p l e rm s m vs.toArray below meth c s.heap [] 0 0 (MQ below Qc vs.toArray s mc ms free) (F0 m 0 ls [])) :
    Met l y (Cond.codeWith y cc nL ret hh :: zt_G) rm (va_Pc vs (zg_P G S)) Qc mc ms free := by
  refine va_MetW (cc := cc) (maxL := nL) (ret := ret) (hh := hh) hy rfl ?_
  intro p e s m args below meth c s₁ B hml hv
  obtain ⟨rfl, hE, hP, hD⟩ := hv
  have hts := atoms_spec (ws := Cond.codeWith y cc nL ret hh :: zt_G) B.pre
  have hl := lv_entry vs (n := nL) hvs
  rw [hlv] at hl
  rw [lg_entry_eq]
  exact body p e s m below meth c ⟨B.exec, B.bytes, hml, findClass_of_methodNamed B.named, fun w h => hts w (List.mem_cons_of_mem _ h), B.notSynchronized, hE⟩ B.returns (vx_table (x := y) B (hts _ List.mem_cons_self)) ⟨hP, hD, va_S.rf⟩ _ hl
theorem zx_ca1 : Cond.castable zx_ia zx_ia ∈ zx_F := by decide +kernel
theorem zx_ca2 : Cond.castable zx_is zx_is ∈ zx_F := by decide +kernel
theorem zx_lc1 : Cond.classLink RL 13 zx_ia ∈ zt_G := List.mem_filter.mpr ⟨by decide +kernel, by decide +kernel⟩
theorem zx_lc2 : Cond.classLink RL 15 zx_is ∈ zt_G := List.mem_filter.mpr ⟨by decide +kernel, by decide +kernel⟩
section ZW
variable {p : Program} {l : Launch} {e : Env} {R : Room} {s : State} {m : MethodId} {args : Array Value} {below : List Frame} {meth : Method} {c : Code} {H : Heap} {locs : List Loc} {cells slots : Nat} {Q : State → Prop}
variable {cc : ByteArray} {pc nL : Nat} {ls : Array Slot} {rest : List Value} {G : zg_T} {S : zs_T} {own : String}
theorem zr_runT {v : Option Value} {k : Int32} {S1 : zs_T} {st0 : List Value} {a : Array Value} (hr : vx_Run p l e R s m args below meth c H locs cells slots 1 6 (F0 m pc ls st0) rest (zx_Q G k v S1 a) (zx_X G k S1) (zg_A G)) (w : zg_W G S s H locs)
    (kx : ¬ k = 0 → ∀ (ce : Cell) (q : Addr) (H1 : Heap) (locs1 : List Loc), zg_W G S1 s H1 locs1 → H1[q]? = some ce → ce.vm = .none → s.vm.findClass (zx_k k) = some ce.cls → vx_W p l e R s m args below meth c H1 locs1 (cells + 1) (slots + 6) Q (F0 m pc ls rest) q)
    (kk : k = 0 → ∀ (H1 : Heap) (locs1 : List Loc), zg_W G S1 s H1 locs1 → W p l e R s m args below meth c H1 locs1 (cells + 1) (slots + 6) Q (F0 m (pc + 3) ls (v.toList ++ rest))) : W p l e R s m args below meth c H locs cells slots Q (F0 m pc ls st0) := by
  intro T hT X
  have key : ∀ {st₀ t T' : State} {L : List Loc}, st₀.heap = H → T'.heap = t.heap → (∀ q ∈ L, zg_A G q.base) → va_P (zg_D G) vwCl (zw_L G S1) t.heap → va_D (zg_A G) (zw_L G S1) → va_F (zg_A G) st₀ t → zg_W G S1 s T'.heap (locs ++ L) := by
    intro st₀ t T' L h0 e1 hL hP hD hF
    obtain ⟨hz, hk⟩ := hF
    rw [h0] at hz hk
    refine ⟨by rw [e1]; exact hP, hD, Nat.le_trans w.2.2.1 (by rw [e1]; exact hz), fun q h1 h2 => ?_, fun q hq => ?_⟩
    · rw [e1, hk q (Nat.lt_of_lt_of_le h1 w.2.2.1) h2]; exact w.2.2.2.1 q h1 h2
    · rcases List.mem_append.mp hq with h | h
      · exact w.2.2.2.2 q h
      · exact hL q h
  rcases hr T hT X with ⟨v', st₀, t, T', L, h0, X', hL, e1, e2, ⟨hk0, hv, ⟨-, hP, hD⟩, hF⟩, st⟩ | ⟨q, st₀, t, T', L, E, ce, h0, X', hL, e1, e2, ⟨hk0, hE, hP, hD, hF⟩, hce, hcv, hcl, st⟩
  · cases hv
    obtain ⟨t2, a1, b1⟩ := kk hk0 T'.heap (locs ++ L) (key h0 e1 hL hP hD hF) T' rfl X'
    exact ⟨t2, st t2 a1, b1⟩
  · subst hE
    obtain ⟨t2, a1, b1⟩ := kx hk0 ce q T'.heap (locs ++ L) (key h0 e1 hL hP hD hF) (by rw [e1]; exact hce) hcv hcl T' rfl X'
    exact ⟨t2, st.trans a1, b1⟩
theorem zr_callT {y : MethodName} {bytes : ByteArray} {maxL n index : Nat} {ret : Option FieldType} {rm : Room} {v : Option Value} {k9 : Int32} {S1 : zs_T} {As st0 : List Value} (C : zx_C p s m args meth c G own cc nL) (w : zg_W G S s H locs) (k : Nat) {ci N : Nat} {fs : List Value} {T : u_T} (hk : (zw_L G S)[k]? = some (zg_q G k, .inr (ci, fs))) (hc : vwCl[ci]? = some (y.cls, T, N))
    (hM : vx_Met l y (Cond.code y bytes maxL ret :: zt_G) rm (va_Pc (.ref (zg_q G k) :: As) (zg_P G S)) (zx_Q G k9 v S1) (zx_X G k9 S1) 1 6 (zg_A G)) (hcode : Cond.code y bytes maxL ret ∈ zt_G) (hlink : Cond.methodLink own index y ∈ zt_G) (hinst : Cond.instanceMethod y ∈ zt_G) (hsel : Cond.selects y.cls y y ∈ zt_G) (hini : Cond.initialized y.cls ∈ zt_G)
    (hd : y.cls ≠ "java/lang/invoke/MethodHandle" ∧ y.cls ≠ "java/lang/invoke/VarHandle" ∧ (parseMethodDescriptor y.desc).map (fun d => d.parameters.length) = some n) (hrm : rm.cells = 1 ∧ rm.slots = 6) (hR : rm.frames + 1 ≤ R.frames ∧ 8 + (maxL + 11) + rm.locals ≤ R.locals)
    (hl : ls.size = nL) (hn : As.length = n) (hst : st0 = As.reverse ++ .ref (zg_q G k) :: rest) (hw : (rest.map fun v => v.category).sum ≤ 8) (hdg : decode cc pc = .ok (.invokevirtual index, 3)) (hf : cells + 1 ≤ R.cells ∧ slots + 6 ≤ R.slots)
    (kx : ¬ k9 = 0 → ∀ (ce : Cell) (q : Addr) (H1 : Heap) (locs1 : List Loc), zg_W G S1 s H1 locs1 → H1[q]? = some ce → ce.vm = .none → s.vm.findClass (zx_k k9) = some ce.cls → vx_W p l e R s m args below meth c H1 locs1 (cells + 1) (slots + 6) Q (F0 m pc ls rest) q)
    (kk : k9 = 0 → ∀ (H1 : Heap) (locs1 : List Loc), zg_W G S1 s H1 locs1 → W p l e R s m args below meth c H1 locs1 (cells + 1) (slots + 6) Q (F0 m (pc + 3) ls (v.toList ++ rest))) : W p l e R s m args below meth c H locs cells slots Q (F0 m pc ls st0) :=
  zr_runT (vx_runV (As := As) (rest := rest) (nL := nL) (n := n) (C := y.cls) ⟨C.1, C.2.1, C.2.2.1, C.2.2.2.1, C.2.2.2.2.1⟩ hM ⟨callB_of n C.2.2.2.2.1 (zt_in hcode) rfl hrm.1 hrm.2 (C.2.2.2.2.1 _ hini) (C.2.2.2.2.1 _ hlink) hd hR, C.2.2.2.2.1 _ hinst, C.2.2.2.2.1 _ hsel⟩
    ⟨zg_blind, va_recv C.2.2.2.2.2.2.1 w.1 hc hk, fun U hU hW => ⟨rfl, zg_P.to C.2.2.2.2.2.2 w hU hW⟩⟩ rfl hn hl hst (by show 2 * 0 + _ ≤ 8; omega) hdg hf) w kx kk
theorem zr_cat1 {q : Addr} {ce : Cell} {k9 : Int32} (C : zx_C p s m args meth c G RL cc nL) (hk : k9 = 1) {a b h : Nat} {suf : List (Nat × Nat × Nat × Nat)} (ht : c.exceptionTable.toList = tableOf ((a, b, h, 13) :: suf)) (hcov : covers ⟨a, b, h, 13⟩ pc = true) (hcell : H[q]? = some ce) (hv : ce.vm = .none) (hcl : s.vm.findClass (zx_k k9) = some ce.cls)
    (kk : W p l e R s m args below meth c H locs cells slots Q (F0 m h ls [.ref q])) : vx_W p l e R s m args below meth c H locs cells slots Q (F0 m pc ls rest) q := by
  subst hk
  exact vx_catch (E := zx_ia) (name := zx_ia) C.2.2.2.1 [] ⟨a, b, h, 13⟩ (tableOf suf) ht (fun z hz => nomatch hz) hcov (show (13 : Nat) ≠ 0 by decide) (C.2.2.2.2.1 _ zx_lc1) ((C.2.2.2.2.2.2.2.2.2.2.2.2.2.2.1 _ zx_ca1).use rfl) hcell hv hcl kk
theorem zr_cat2 {q : Addr} {ce : Cell} {k9 : Int32} (C : zx_C p s m args meth c G RL cc nL) (hk : k9 = 2) {a b h a' b' h' : Nat} {suf : List (Nat × Nat × Nat × Nat)} (ht : c.exceptionTable.toList = tableOf ((a', b', h', 13) :: (a, b, h, 15) :: suf)) (hcov : covers ⟨a, b, h, 15⟩ pc = true) (hcell : H[q]? = some ce) (hv : ce.vm = .none) (hcl : s.vm.findClass (zx_k k9) = some ce.cls)
    (kk : W p l e R s m args below meth c H locs cells slots Q (F0 m h ls [.ref q])) : vx_W p l e R s m args below meth c H locs cells slots Q (F0 m pc ls rest) q := by
  subst hk
  exact vx_catch (E := zx_is) (name := zx_is) C.2.2.2.1 [⟨a', b', h', 13⟩] ⟨a, b, h, 15⟩ (tableOf suf) ht (fun z hz => by
    cases List.mem_singleton.mp hz
    exact Or.inr ⟨show (13 : Nat) ≠ 0 by decide, zx_ia, C.2.2.2.2.1 _ zx_lc1, C.2.2.2.2.2.2.2.2.2.2.2.2.2.2.2⟩) hcov (show (15 : Nat) ≠ 0 by decide) (C.2.2.2.2.1 _ zx_lc2) ((C.2.2.2.2.2.2.2.2.2.2.2.2.2.2.1 _ zx_ca2).use rfl) hcell hv hcl kk
theorem zr_cat3 {q : Addr} {ce : Cell} {k9 : Int32} (C : zx_C p s m args meth c G RL cc nL) (hk : k9 = 2) {a b h : Nat} {suf : List (Nat × Nat × Nat × Nat)} (ht : c.exceptionTable.toList = tableOf ((a, b, h, 15) :: suf)) (hcov : covers ⟨a, b, h, 15⟩ pc = true) (hcell : H[q]? = some ce) (hv : ce.vm = .none) (hcl : s.vm.findClass (zx_k k9) = some ce.cls)
    (kk : W p l e R s m args below meth c H locs cells slots Q (F0 m h ls [.ref q])) : vx_W p l e R s m args below meth c H locs cells slots Q (F0 m pc ls rest) q := by
  subst hk
  exact vx_catch (E := zx_is) (name := zx_is) C.2.2.2.1 [] ⟨a, b, h, 15⟩ (tableOf suf) ht (fun z hz => nomatch hz) hcov (show (15 : Nat) ≠ 0 by decide) (C.2.2.2.2.1 _ zx_lc2) ((C.2.2.2.2.2.2.2.2.2.2.2.2.2.2.1 _ zx_ca2).use rfl) hcell hv hcl kk
end ZW
/-- what a wrapper leaves: its answer, and the law's one cell -/
def zx_o (k r : Int32) (S : zs_T) : zs_T := if k = 0 then zs_wl S 59 0 r.toInt64 else S
