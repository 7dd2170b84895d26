/-! methods that may throw: k is 0 at a return, 1 where an IllegalArgumentException leaves, 2 where an IllegalStateException does -/
def zx_k (k : Int32) : String := if k = 1 then zx_ia else zx_is
def zx_Q (G : zg_T) (k : Int32) (v : Option Value) (S : zs_T) : Array Value → State → Outcome → State → Prop := fun a st oc t => k = 0 ∧ zg_Q G v S a st oc t
def zx_X (G : zg_T) (k : Int32) (S : zs_T) : String → State → State → Prop := fun E st t => ¬ k = 0 ∧ E = zx_k k ∧ va_P (zg_D G) vwCl (zw_L G S) t.heap ∧ va_D (zg_A G) (zw_L G S) ∧ va_F (zg_A G) st t
theorem zx_metT {l : Launch} {y : MethodName} {cc : ByteArray} {nL : Nat} {ret : Option FieldType} {rm : Room} {vs : List Value} {G : zg_T} {S : zs_T} {Qc : Array Value → State → Outcome → State → Prop} {XC : String → State → State → Prop} {mc ms : Nat} {free : Addr → Prop}
    (hy : plainName y.cls = true) (hvs : (lg_sl vs).length ≤ nL) {lv : List (Nat × Value)} (hlv : lv_args 0 vs = lv)
    (body : ∀ p e s m below meth c, zx_C p s m vs.toArray meth c G y.cls cc nL → meth.sig.returnType = ret → (∀ x ∈ c.exceptionTable.toList, False) → zg_W G S s s.heap [] → ∀ ls, lv_has ls nL lv →
      W p l e rm s m vs.toArray below meth c s.heap [] 0 0 (vx_MQ below Qc XC vs.toArray s mc ms free) (F0 m 0 ls [])) :
    vx_Met l y (Cond.code y cc nL ret :: zt_G) rm (va_Pc vs (zg_P G S)) Qc XC mc ms free := by
  refine vx_ofW (cc := cc) (maxL := nL) (ret := ret) hy rfl ?_
  intro p e s m args below meth c s₁ B hml hx hv
  obtain ⟨rfl, hE, hP, hD⟩ := hv
  have hts := atoms_spec (ws := Cond.code y cc nL ret :: zt_G) B.pre
  have hl := lv_entry vs (n := nL) hvs
  rw [hlv] at hl
  rw [lg_entry_eq]
  exact body p e s m below meth c ⟨B.exec, B.bytes, hml, findClass_of_methodNamed B.named, fun w h => hts w (List.mem_cons_of_mem _ h), B.notSynchronized, hE⟩ B.returns hx ⟨hP, hD, va_S.rf⟩ _ hl
theorem zx_hat1 : ∀ w ∈ vx_atS RX10 47 zx_ia zx_ch, goodWord w = true → w ∈ lw_tbl := by decide +kernel
theorem zx_hat2 : ∀ w ∈ vx_atS RX10 54 zx_is zx_ch, goodWord w = true → w ∈ lw_tbl := by decide +kernel
theorem zx_ot1 : ∀ w ∈ Cond.classLink RX10 43 zx_ia :: Cond.initialized zx_ia :: vx_atS RX10 47 zx_ia zx_ch, vx_ot w = true := by decide +kernel
theorem zx_ot2 : ∀ w ∈ Cond.classLink RX10 50 zx_is :: Cond.initialized zx_is :: vx_atS RX10 54 zx_is zx_ch, vx_ot w = true := by decide +kernel
theorem zx_cl1 : Cond.classLink RX10 43 zx_ia ∈ zt_G := List.mem_filter.mpr ⟨by decide +kernel, by decide +kernel⟩
theorem zx_cl2 : Cond.classLink RX10 50 zx_is ∈ zt_G := List.mem_filter.mpr ⟨by decide +kernel, by decide +kernel⟩
theorem zx_in1 : Cond.initialized zx_ia ∈ zt_G := List.mem_filter.mpr ⟨by decide +kernel, by decide +kernel⟩
theorem zx_in2 : Cond.initialized zx_is ∈ zt_G := List.mem_filter.mpr ⟨by decide +kernel, by decide +kernel⟩
section ZT
variable {p : Program} {l : Launch} {e : Env} {R : Room} {s : State} {m : MethodId} {args : Array Value} {below : List Frame} {meth : Method} {c : Code} {H : Heap} {locs : List Loc} {cells slots : Nat} {Q : State → Prop}
variable {cc : ByteArray} {pc nL : Nat} {ls : Array Slot} {rest : List Value} {G : zg_T} {S : zs_T} {own : String} {α β : Type} {Qc : Array Value → State → Outcome → State → Prop}
theorem zx_at {ic : Nat} {cls : String} (h : ∀ w ∈ vx_atS RX10 ic cls zx_ch, goodWord w = true → w ∈ lw_tbl) (hF : ∀ w ∈ vx_atS RX10 ic cls zx_ch, goodWord w = false → w ∈ zx_F) (hts : ∀ w ∈ zt_G, w.before args s = true) (hE : ∀ w ∈ zx_F, va_Nw w s) : ∀ w ∈ vx_atS RX10 ic cls zx_ch, w.before args s = true := fun w hw => by
  cases g : goodWord w with
  | true => exact hts w (List.mem_filter.mpr ⟨h w hw g, g⟩)
  | false => exact (hE w (hF w hw g)).use (zx_F_ok w (hF w hw g)).2
theorem zx_F1 : ∀ w ∈ vx_atS RX10 47 zx_ia zx_ch, goodWord w = false → w ∈ zx_F := fun w hw g => List.mem_filter.mpr ⟨List.mem_append_left _ hw, by rw [g]; rfl⟩
theorem zx_F2 : ∀ w ∈ vx_atS RX10 54 zx_is zx_ch, goodWord w = false → w ∈ zx_F := fun w hw g => List.mem_filter.mpr ⟨List.mem_append_right _ hw, by rw [g]; rfl⟩
theorem zr_thr {ik ic is : Nat} {cls text : String} {k k1 : Int32} {S1 : zs_T} (C : zx_C p s m args meth c G RX10 cc nL) (hx : ∀ x ∈ c.exceptionTable.toList, False) (hst : l.stackTraces = false) (w : zg_W G S s H locs)
    (hfit : Bundle.fit cls = true) (hck : Cond.classLink RX10 ik cls ∈ zt_G) (hin : Cond.initialized cls ∈ zt_G) (h1 : ∀ w ∈ vx_atS RX10 ic cls zx_ch, goodWord w = true → w ∈ lw_tbl) (h2 : ∀ w ∈ vx_atS RX10 ic cls zx_ch, goodWord w = false → w ∈ zx_F)
    (hot : ∀ w ∈ Cond.classLink RX10 ik cls :: Cond.initialized cls :: vx_atS RX10 ic cls zx_ch, vx_ot w = true) (hc : cls = zx_k k) (hk : ¬ k = 0) (hstr : (is, text) ∈ zk_S) (hl : ls.size = nL)
    (d0 : decode cc pc = .ok (.new ik, 3)) (d3 : decode cc (pc + 3) = .ok (.dup, 1)) (d4 : decode cc (pc + 4) = .ok (.ldc is, 2)) (d6 : decode cc (pc + 6) = .ok (.invokespecial ic, 3)) (d9 : decode cc (pc + 9) = .ok (.athrow, 1))
    (hf : 5 < R.frames) (hlo : (rest.map fun v => v.category).sum + 82 ≤ R.locals) (hce : 1 ≤ R.cells) (hsl : 6 ≤ R.slots) (ek : k = k1) (eS : S = S1) :
    W p l e R s m args below meth c H locs 0 0 (vx_MQ below Qc (zx_X G k1 S1) args s 1 6 (zg_A G)) (F0 m pc ls rest) := by
  subst ek; subst eS
  obtain ⟨sa, hsa⟩ := C.2.2.2.2.2.2.2.2.2.2.2.2.2.1 _ hstr
  refine vx_throwS C.1 C.2.1 hst (names := zx_ch) (cls := cls) (A := zg_A G) C.2.2.2.1 hfit (by decide +kernel) (C.2.2.2.2.1 _ hck) (C.2.2.2.2.1 _ hin) hsa (zx_at h1 h2 C.2.2.2.2.1 C.2.2.2.2.2.2.2.2.2.2.2.2.2.2.1) hot C.2.2.2.2.2.2.2.2.2.2.2.1 C.2.2.2.2.2.2.2.2.2.2.2.2.1 w.2.2 (hl.trans C.2.2.1.symm) d0 d3 d4 d6 d9 (fun x h => (hx x h).elim) hf hlo hce hsl C.2.2.2.2.2.1 ?_ w.2.2.2.2 (Nat.le_refl _) (Nat.le_refl _)
  intro t al hz hq
  refine ⟨hk, hc, w.1.kept (fun j x hj => hq _ (w.1 j x hj).lt), w.2.1, Nat.le_trans w.2.2.1 hz, fun q h1 h2 => ?_⟩
  rw [hq q (Nat.lt_of_lt_of_le h1 w.2.2.1)]
  exact w.2.2.2.1 q h1 h2
theorem zr_thr1 {is : Nat} {text : String} {k1 r1 : Int32} {S1 : zs_T} (C : zx_C p s m args meth c G RX10 cc nL) (hx : ∀ x ∈ c.exceptionTable.toList, False) (hst : l.stackTraces = false) (w : zg_W G S s H locs) (hstr : (is, text) ∈ zk_S) (hl : ls.size = nL)
    (d0 : decode cc pc = .ok (.new 43, 3)) (d3 : decode cc (pc + 3) = .ok (.dup, 1)) (d4 : decode cc (pc + 4) = .ok (.ldc is, 2)) (d6 : decode cc (pc + 6) = .ok (.invokespecial 47, 3)) (d9 : decode cc (pc + 9) = .ok (.athrow, 1))
    (hf : 5 < R.frames) (hlo : (rest.map fun v => v.category).sum + 82 ≤ R.locals) (hce : 1 ≤ R.cells) (hsl : 6 ≤ R.slots) (h : some ((1 : Int32), (0 : Int32), S) = some (k1, r1, S1)) :
    W p l e R s m args below meth c H locs 0 0 (vx_MQ below Qc (zx_X G k1 S1) args s 1 6 (zg_A G)) (F0 m pc ls rest) :=
  zr_thr (k := 1) C hx hst w (by decide +kernel) zx_cl1 zx_in1 zx_hat1 zx_F1 zx_ot1 (by decide +kernel) (by decide) hstr hl d0 d3 d4 d6 d9 hf hlo hce hsl (congrArg Prod.fst (Option.some.inj h)) (congrArg (fun x => x.2.2) (Option.some.inj h))
theorem zr_thr2 {is : Nat} {text : String} {k1 r1 : Int32} {S1 : zs_T} (C : zx_C p s m args meth c G RX10 cc nL) (hx : ∀ x ∈ c.exceptionTable.toList, False) (hst : l.stackTraces = false) (w : zg_W G S s H locs) (hstr : (is, text) ∈ zk_S) (hl : ls.size = nL)
    (d0 : decode cc pc = .ok (.new 50, 3)) (d3 : decode cc (pc + 3) = .ok (.dup, 1)) (d4 : decode cc (pc + 4) = .ok (.ldc is, 2)) (d6 : decode cc (pc + 6) = .ok (.invokespecial 54, 3)) (d9 : decode cc (pc + 9) = .ok (.athrow, 1))
    (hf : 5 < R.frames) (hlo : (rest.map fun v => v.category).sum + 82 ≤ R.locals) (hce : 1 ≤ R.cells) (hsl : 6 ≤ R.slots) (h : some ((2 : Int32), (0 : Int32), S) = some (k1, r1, S1)) :
    W p l e R s m args below meth c H locs 0 0 (vx_MQ below Qc (zx_X G k1 S1) args s 1 6 (zg_A G)) (F0 m pc ls rest) :=
  zr_thr (k := 2) C hx hst w (by decide +kernel) zx_cl2 zx_in2 zx_hat2 zx_F2 zx_ot2 (by decide +kernel) (by decide) hstr hl d0 d3 d4 d6 d9 hf hlo hce hsl (congrArg Prod.fst (Option.some.inj h)) (congrArg (fun x => x.2.2) (Option.some.inj h))
theorem zr_xreti {XC : String → State → State → Prop} (C : zx_C p s m args meth c G own cc nL) (w : zg_W G S s H locs) (hr : meth.sig.returnType = some .int) (hdg : decode cc pc = .ok (.ireturn, 1)) {v k1 r1 : Int32} {S1 : zs_T} (h : some ((0 : Int32), v, S) = some (k1, r1, S1)) :
    W p l e R s m args below meth c H locs 0 0 (vx_MQ below (zx_Q G k1 (some (.int r1)) S1) XC args s 1 6 (zg_A G)) (F0 m pc ls [.int v]) := by
  cases h
  exact vx_ret (W.widen (k := 1) (n := 6) (by omega) (by omega) (W.iret C.1 C.2.1 hr (fun t ht hW => ⟨rfl, rfl, zg_P.to C.2.2.2.2.2.2 w ht hW, w.2.2.F ht⟩) w.2.2.2.2 hdg C.2.2.2.2.2.1))
theorem zr_xretv {XC : String → State → State → Prop} (C : zx_C p s m args meth c G own cc nL) (w : zg_W G S s H locs) (hr : meth.sig.returnType = none) (hdg : decode cc pc = .ok (.return_, 1)) {k1 r1 : Int32} {S1 : zs_T} (h : some ((0 : Int32), (0 : Int32), S) = some (k1, r1, S1)) :
    W p l e R s m args below meth c H locs 0 0 (vx_MQ below (zx_Q G k1 none S1) XC args s 1 6 (zg_A G)) (F0 m pc ls []) := by
  cases h
  exact vx_ret (W.widen (k := 1) (n := 6) (by omega) (by omega) (W.vret C.1 C.2.1 hr (fun t ht hW => ⟨rfl, rfl, zg_P.to C.2.2.2.2.2.2 w ht hW, w.2.2.F ht⟩) w.2.2.2.2 hdg C.2.2.2.2.2.1))
end ZT
