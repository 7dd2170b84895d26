/-! a throw that is caught in the frame itself, through the rows of the method's table -/
/-- one row that covers the pc and links to a class: the search looks at the object's class there and nowhere else -/
theorem vx_row {Q : Handler → Pre} {E : CtlPost} {e : Env} {d : Bool} {acts : List Action} {s : State} {f : JFrame} {a : Addr} {x : ExceptionTableEntry} {t : List ExceptionTableEntry} {c : ClassId} {ce : Cell}
    (hx : covers x f.pc = true) (h0 : x.catchType ≠ 0) (hl : s.vm.ClassLinks e.platform f.method.cls x.catchType c) (hce : s.heap[a]? = some ce) (hno : ∀ k, ce.vm ≠ .statics k)
    (hk : ∃ k, s.vm.classes[ce.cls]? = some k) (hc : ∃ k, s.vm.classes[c]? = some k) :
    wp (findHandler.go f a (x :: t)) Q E e d acts s ↔ if s.vm.assignable ce.cls c = true then Q (.found x.handlerPc) d acts (s.setVm (s.vm.noted f.method.cls x.catchType (.cls c))) else wp (findHandler.go f a t) Q E e d acts (s.setVm (s.vm.noted f.method.cls x.catchType (.cls c))) := by
  have al : s.vm.Alike (s.vm.noted f.method.cls x.catchType (.cls c)) := (Vm.Alike.refl s.vm).noted _ _ _
  obtain ⟨_, q1⟩ := hk
  obtain ⟨_, q2⟩ := hc
  obtain ⟨_, w1, -⟩ := al.2.2 _ _ q1
  obtain ⟨_, w2, -⟩ := al.2.2 _ _ q2
  obtain ⟨o1, o2⟩ := (resolveClass_links e.toSetting hl).op (op := VmOp.resolveClass f.method.cls x.catchType) rfl
  have as := al.assignable ce.cls c
  simp only [covers] at hx
  rw [← as]
  cases h : (s.vm.noted f.method.cls x.catchType (.cls c)).assignable ce.cls c <;> simp [findHandler.go, hx, h0, o1, o2, hce, hno, w1, w2, h, VmOp.dirties, VmOp.acts]
/-- the whole search, row by row -/
theorem vx_search {e : Env} {s0 : State} {f : JFrame} {a : Addr} {ce : Cell} (hno : ∀ k, ce.vm ≠ .statics k) (hk : ∃ k, s0.vm.classes[ce.cls]? = some k) {x : ExceptionTableEntry} {suf : List ExceptionTableEntry} (hx : covers x f.pc = true) (h0 : x.catchType ≠ 0)
    {c : ClassId} (hl : s0.vm.ClassLinks e.platform f.method.cls x.catchType c) (hfit : s0.vm.assignable ce.cls c = true) :
    ∀ (tb : List ExceptionTableEntry) (u : State), s0.WarmedH u.vm → u.heap[a]? = some ce →
      (∀ z ∈ tb, covers z f.pc = false ∨ (z.catchType ≠ 0 ∧ ∃ c1, s0.vm.ClassLinks e.platform f.method.cls z.catchType c1 ∧ s0.vm.assignable ce.cls c1 = false)) →
      ∃ v, s0.WarmedH v ∧ ∀ (Q : Handler → Pre) (E : CtlPost) (d : Bool) (acts : List Action), wp (findHandler.go f a (tb ++ x :: suf)) Q E e d acts u ↔ Q (.found x.handlerPc) d acts (u.setVm v) := by
  have key : ∀ (u : State), s0.WarmedH u.vm → ∀ {c1 : ClassId} {j : Nat}, s0.vm.ClassLinks e.platform f.method.cls j c1 → (∃ k, u.vm.classes[ce.cls]? = some k) ∧ (∃ k, u.vm.classes[c1]? = some k) ∧ s0.WarmedH (u.vm.noted f.method.cls j (.cls c1)) ∧ u.vm.ClassLinks e.platform f.method.cls j c1 ∧ u.vm.assignable ce.cls c1 = s0.vm.assignable ce.cls c1 := by
    intro u hu c1 j h1
    obtain ⟨k1, hk1⟩ := hk
    obtain ⟨y1, e1, -⟩ := hu.alike.2.2 _ _ hk1
    obtain ⟨_, _, _, k2, hd, _, _, _, _, hk2, _, ho⟩ := h1.here
    obtain ⟨y2, e2, -⟩ := hu.alike.2.2 _ _ hk2
    exact ⟨⟨y1, e1⟩, ⟨y2, e2⟩, hu.noted hd ho (State.rightAt_cls h1), hu.classLinks h1, hu.alike.assignable _ _⟩
  intro tb
  induction tb with
  | nil =>
    intro u hu hce _
    obtain ⟨g1, g2, g3, g4, g5⟩ := key u hu hl
    refine ⟨_, g3, fun Q E d acts => ?_⟩
    have := vx_row (Q := Q) (E := E) (d := d) (acts := acts) (t := suf) hx h0 g4 hce hno g1 g2
    rw [g5, if_pos hfit] at this
    exact this
  | cons z tb ih =>
    intro u hu hce hp
    have hp1 := fun y hy => hp y (List.mem_cons_of_mem z hy)
    cases hz : covers z f.pc with
    | false =>
      obtain ⟨v, hv, w⟩ := ih u hu hce hp1
      exact ⟨v, hv, fun Q E d acts => (W.findHandler_go_skip hz).trans (w Q E d acts)⟩
    | true =>
      rcases hp z (List.mem_cons_self ..) with h | ⟨z0, c1, l1, n1⟩
      · rw [hz] at h; cases h
      · obtain ⟨g1, g2, g3, g4, g5⟩ := key u hu l1
        obtain ⟨v, hv, w⟩ := ih (u.setVm (u.vm.noted f.method.cls z.catchType (.cls c1))) g3 hce hp1
        refine ⟨v, hv, fun Q E d acts => ?_⟩
        have := vx_row (Q := Q) (E := E) (d := d) (acts := acts) (t := tb ++ x :: suf) hz z0 g4 hce hno g1 g2
        rw [g5, n1, if_neg (by decide)] at this
        exact this.trans (w Q E d acts)
section Rows
variable {p : Program} {l : Launch} {e : Env} {R : Room} {s : State} {m : MethodId} {args : Array Value} {below : List Frame} {meth : Method} {c : Code} {H : Heap} {locs : List Loc} {cells slots : Nat} {Q : State → Prop}
variable {mc ms : Nat} {free : Addr → Prop} {A0 A1 : Nat → Prop} {H0 : Heap} {a : Array Value} {pc : Nat} {ls : Array Slot} {st0 rest : List Value}
/-- caught by the row x of this method's table; the rows ahead don't take it -/
theorem vx_catch {own name : String} {E : String} {ce : Cell} {q : Addr} (hown : s.vm.findClass own = some m.cls) (pre : List ExceptionTableEntry) (x : ExceptionTableEntry) (suf : List ExceptionTableEntry) (hsplit : c.exceptionTable.toList = pre ++ x :: suf)
    (hpass : ∀ z ∈ pre, covers z pc = false ∨ (z.catchType ≠ 0 ∧ ∃ nm : String, (Cond.classLink own z.catchType nm).before args s = true ∧ va_Nc E nm s)) (hx : covers x pc = true) (h0 : x.catchType ≠ 0)
    (hlink : (Cond.classLink own x.catchType name).before args s = true) (hcast : (Cond.castable E name).before args s = true) (hcell : H[q]? = some ce) (hv : ce.vm = .none) (hcl : s.vm.findClass E = some ce.cls)
    (kk : W p l e R s m args below meth c H locs cells slots Q (F0 m x.handlerPc ls [.ref q])) : vx_W p l e R s m args below meth c H locs cells slots Q (F0 m pc ls rest) q := by
  intro T hT X
  have hpl : e.platform.magicAccessors = ({} : Platform).magicAccessors := by rw [X.admits.platform]
  obtain ⟨c3, c4, hc3, hc4, hasg⟩ := Cond.castable_spec hcast
  cases Option.some.inj (hc3.symm.trans hcl)
  obtain ⟨c5, hc5, hcl5⟩ := Cond.classLink_spec hown hlink e.platform hpl
  cases Option.some.inj (hc4.symm.trans hc5)
  obtain ⟨v, hw, find⟩ := vx_search (e := e) (s0 := s) (f := F0 m pc ls rest) (a := q) (ce := ce) (fun k => by rw [hv]; intro z; cases z) (by obtain ⟨k9, h9, -⟩ := Vm.findClass_spec hcl; exact ⟨k9, h9⟩) (suf := suf) hx h0 hcl5 hasg pre ((T.setTop (F0 m pc ls rest)).pushFrame (.throwing q)) X.warmed (by rw [← hT] at hcell; exact hcell)
    (fun z hz => by
      rcases hpass z hz with h | ⟨hz0, nm, hl1, hn1⟩
      · exact Or.inl h
      · obtain ⟨c6, hc6, hcl6⟩ := Cond.classLink_spec hown hl1 e.platform hpl
        obtain ⟨a8, b8, h1, h2, h3⟩ := hn1
        cases Option.some.inj (h1.symm.trans hcl)
        cases Option.some.inj (h2.symm.trans hc6)
        exact Or.inr ⟨hz0, _, hcl6, h3⟩)
  obtain ⟨t, a1, b1⟩ := kk (T.setVm v) hT (X.noted hw)
  refine ⟨t, ?_, b1⟩
  obtain ⟨hgo, hw2⟩ := X.here.throwing (g := F0 m pc ls rest) q
  refine Steps.head hgo hw2 ?_
  have hfind : ∀ (Q : Handler → Pre) (E : CtlPost) (d : Bool) (acts : List Action), wp (findHandler (F0 m pc ls rest) q) Q E e d acts ((T.setTop (F0 m pc ls rest)).pushFrame (.throwing q)) ↔ Q (.found x.handlerPc) d acts (((T.setTop (F0 m pc ls rest)).pushFrame (.throwing q)).setVm v) := fun Q E d acts => by
    rw [W.findHandler_eq (meth := meth) (code := c) X.method' X.code, hsplit]; exact find Q E d acts
  have hstep : ∀ r : List Frame, (stepThrowing e ((T.setTop (F0 m pc ls rest)).pushFrame (.throwing q)) q (.java (F0 m pc ls rest) :: r)).Is ((((T.setTop (F0 m pc ls rest)).pushFrame (.throwing q)).setVm v).setFrames (.java { F0 m pc ls rest with pc := x.handlerPc, stack := [.ref q] } :: r)) [] := by
    intro r
    simp only [stepThrowing, searchFrame, vmDo]
    generalize hr : Sem.go _ e false [] ((T.setTop (F0 m pc ls rest)).pushFrame (.throwing q)) = res
    obtain ⟨as, rfl, ha⟩ := Sem.eq_ok_of hr (a := Handler.found x.handlerPc) (s' := ((T.setTop (F0 m pc ls rest)).pushFrame (.throwing q)).setVm v) (acts' := []) (by simp [hfind _ _ _ _])
    exact ⟨rfl, ha⟩
  rw [stepThread_throwing (frames_entered X.here.top _), (hstep _).1]
  obtain ⟨g0, hg⟩ := Option.isSome_iff_exists.mp X.here.top
  obtain ⟨r, hr⟩ := State.topJava?_eq_some.mp hg
  have hr2 : (T.setVm v).frames = .java g0 :: r := hr
  rw [State.setTop_of_frames _ hr2] at a1
  have e9 : ∀ F G, ((T.setFrames F).setVm v).setFrames G = (T.setVm v).setFrames G := fun F G => by
    show ((T.setVm v).setFrames F).setFrames G = _
    rw [State.setFrames_setFrames]
  rw [State.pushFrame, State.setTop_of_frames _ hr, State.setFrames_setFrames, hr, e9]
  exact a1
end Rows
