/-! what the Statement gives at the start, in my words -/
theorem zt_ne {args : Array Value} {s : State} {tm : Term} {v : Int32} (h : (Cond.eq tm (.int v)).before args s = true) : tm.eval args s none [] s = some (.int v) := va_eqt h
theorem zt_one {args : Array Value} {s : State} {C n : String} {N : Nat} {f : Nat → Int32} {A : Nat → Prop} (hN : N < 2 ^ 31) (hl : (Cond.laysStatic C n "[I").before args s = true) (hini : (Cond.initialized C).before args s = true) (harr : (Cond.arrayOf (.static C n "[I") .int).before args s = true) (hlen : (Cond.eq (.length (.static C n "[I")) (.int (Int32.ofNat N))).before args s = true)
    (hel : ∀ j : Nat, j < N → (Cond.eq (.elem (.static C n "[I") (.int (Int32.ofNat j))) (.int (f j))).before args s = true) (hA : ∀ a : Nat, a < s.heap.size → ¬ A a) : ∃ t : Nat, va_Z C n "[I" (.ref t) A s s.heap ∧ va_T .int t N (fun i => .int (f i)) A s s.heap := by
  obtain ⟨t, ht, hT⟩ := va_Tof (tm := .static C n "[I") (f := fun i => .int (f i)) hN harr (va_eqt hlen) (fun j hj => va_eqt (hel j hj)) hA
  exact ⟨t, va_Zref hl hini ht hA, hT⟩
set_option maxHeartbeats 8000000 in
set_option maxRecDepth 200000 in
theorem zt_t0 {b : Nat} {s : State} {A : Nat → Prop} (hts : ∀ w ∈ lw_tbl, w.before #[Value.ref b] s = true) (hs : ∀ c ∈ flatC (Jvm.Cond.and given_1 narrow_1), c.before #[Value.ref b] s = true) (hA : ∀ a : Nat, a < s.heap.size → ¬ A a) : ∃ t : Nat, va_Z (zt_C 0) (zt_n 0) "[I" (.ref t) A s s.heap ∧ va_T .int t (zt_N 0) (fun i => .int (zt_v 0 i)) A s s.heap := by
  refine zt_one (C := zt_C 0) (n := zt_n 0) (N := 8) (f := zt_v 0) (by decide) (hts _ (by decide +kernel)) (hts _ (by decide +kernel)) (hs _ (by decide +kernel)) (hs _ (by decide +kernel)) (fun j hj => ?_) hA
  match j, hj with
  | 0, _ => exact hs _ (by decide +kernel)
  | 1, _ => exact hs _ (by decide +kernel)
  | 2, _ => exact hs _ (by decide +kernel)
  | 3, _ => exact hs _ (by decide +kernel)
  | 4, _ => exact hs _ (by decide +kernel)
  | 5, _ => exact hs _ (by decide +kernel)
  | 6, _ => exact hs _ (by decide +kernel)
  | 7, _ => exact hs _ (by decide +kernel)
  | j + 8, hj => exact absurd hj (by omega)
set_option maxHeartbeats 8000000 in
set_option maxRecDepth 200000 in
theorem zt_t1 {b : Nat} {s : State} {A : Nat → Prop} (hts : ∀ w ∈ lw_tbl, w.before #[Value.ref b] s = true) (hs : ∀ c ∈ flatC (Jvm.Cond.and given_1 narrow_1), c.before #[Value.ref b] s = true) (hA : ∀ a : Nat, a < s.heap.size → ¬ A a) : ∃ t : Nat, va_Z (zt_C 1) (zt_n 1) "[I" (.ref t) A s s.heap ∧ va_T .int t (zt_N 1) (fun i => .int (zt_v 1 i)) A s s.heap := by
  refine zt_one (C := zt_C 1) (n := zt_n 1) (N := 4) (f := zt_v 1) (by decide) (hts _ (by decide +kernel)) (hts _ (by decide +kernel)) (hs _ (by decide +kernel)) (hs _ (by decide +kernel)) (fun j hj => ?_) hA
  match j, hj with
  | 0, _ => exact hs _ (by decide +kernel)
  | 1, _ => exact hs _ (by decide +kernel)
  | 2, _ => exact hs _ (by decide +kernel)
  | 3, _ => exact hs _ (by decide +kernel)
  | j + 4, hj => exact absurd hj (by omega)
set_option maxHeartbeats 8000000 in
set_option maxRecDepth 200000 in
theorem zt_t2 {b : Nat} {s : State} {A : Nat → Prop} (hts : ∀ w ∈ lw_tbl, w.before #[Value.ref b] s = true) (hs : ∀ c ∈ flatC (Jvm.Cond.and given_1 narrow_1), c.before #[Value.ref b] s = true) (hA : ∀ a : Nat, a < s.heap.size → ¬ A a) : ∃ t : Nat, va_Z (zt_C 2) (zt_n 2) "[I" (.ref t) A s s.heap ∧ va_T .int t (zt_N 2) (fun i => .int (zt_v 2 i)) A s s.heap := by
  refine zt_one (C := zt_C 2) (n := zt_n 2) (N := 8) (f := zt_v 2) (by decide) (hts _ (by decide +kernel)) (hts _ (by decide +kernel)) (hs _ (by decide +kernel)) (hs _ (by decide +kernel)) (fun j hj => ?_) hA
  match j, hj with
  | 0, _ => exact hs _ (by decide +kernel)
  | 1, _ => exact hs _ (by decide +kernel)
  | 2, _ => exact hs _ (by decide +kernel)
  | 3, _ => exact hs _ (by decide +kernel)
  | 4, _ => exact hs _ (by decide +kernel)
  | 5, _ => exact hs _ (by decide +kernel)
  | 6, _ => exact hs _ (by decide +kernel)
  | 7, _ => exact hs _ (by decide +kernel)
  | j + 8, hj => exact absurd hj (by omega)
set_option maxHeartbeats 8000000 in
set_option maxRecDepth 200000 in
theorem zt_t3 {b : Nat} {s : State} {A : Nat → Prop} (hts : ∀ w ∈ lw_tbl, w.before #[Value.ref b] s = true) (hs : ∀ c ∈ flatC (Jvm.Cond.and given_1 narrow_1), c.before #[Value.ref b] s = true) (hA : ∀ a : Nat, a < s.heap.size → ¬ A a) : ∃ t : Nat, va_Z (zt_C 3) (zt_n 3) "[I" (.ref t) A s s.heap ∧ va_T .int t (zt_N 3) (fun i => .int (zt_v 3 i)) A s s.heap := by
  refine zt_one (C := zt_C 3) (n := zt_n 3) (N := 8) (f := zt_v 3) (by decide) (hts _ (by decide +kernel)) (hts _ (by decide +kernel)) (hs _ (by decide +kernel)) (hs _ (by decide +kernel)) (fun j hj => ?_) hA
  match j, hj with
  | 0, _ => exact hs _ (by decide +kernel)
  | 1, _ => exact hs _ (by decide +kernel)
  | 2, _ => exact hs _ (by decide +kernel)
  | 3, _ => exact hs _ (by decide +kernel)
  | 4, _ => exact hs _ (by decide +kernel)
  | 5, _ => exact hs _ (by decide +kernel)
  | 6, _ => exact hs _ (by decide +kernel)
  | 7, _ => exact hs _ (by decide +kernel)
  | j + 8, hj => exact absurd hj (by omega)
set_option maxHeartbeats 8000000 in
set_option maxRecDepth 200000 in
theorem zt_t4 {b : Nat} {s : State} {A : Nat → Prop} (hts : ∀ w ∈ lw_tbl, w.before #[Value.ref b] s = true) (hs : ∀ c ∈ flatC (Jvm.Cond.and given_1 narrow_1), c.before #[Value.ref b] s = true) (hA : ∀ a : Nat, a < s.heap.size → ¬ A a) : ∃ t : Nat, va_Z (zt_C 4) (zt_n 4) "[I" (.ref t) A s s.heap ∧ va_T .int t (zt_N 4) (fun i => .int (zt_v 4 i)) A s s.heap := by
  refine zt_one (C := zt_C 4) (n := zt_n 4) (N := 8) (f := zt_v 4) (by decide) (hts _ (by decide +kernel)) (hts _ (by decide +kernel)) (hs _ (by decide +kernel)) (hs _ (by decide +kernel)) (fun j hj => ?_) hA
  match j, hj with
  | 0, _ => exact hs _ (by decide +kernel)
  | 1, _ => exact hs _ (by decide +kernel)
  | 2, _ => exact hs _ (by decide +kernel)
  | 3, _ => exact hs _ (by decide +kernel)
  | 4, _ => exact hs _ (by decide +kernel)
  | 5, _ => exact hs _ (by decide +kernel)
  | 6, _ => exact hs _ (by decide +kernel)
  | 7, _ => exact hs _ (by decide +kernel)
  | j + 8, hj => exact absurd hj (by omega)
set_option maxHeartbeats 8000000 in
set_option maxRecDepth 200000 in
theorem zt_t5 {b : Nat} {s : State} {A : Nat → Prop} (hts : ∀ w ∈ lw_tbl, w.before #[Value.ref b] s = true) (hs : ∀ c ∈ flatC (Jvm.Cond.and given_1 narrow_1), c.before #[Value.ref b] s = true) (hA : ∀ a : Nat, a < s.heap.size → ¬ A a) : ∃ t : Nat, va_Z (zt_C 5) (zt_n 5) "[I" (.ref t) A s s.heap ∧ va_T .int t (zt_N 5) (fun i => .int (zt_v 5 i)) A s s.heap := by
  refine zt_one (C := zt_C 5) (n := zt_n 5) (N := 8) (f := zt_v 5) (by decide) (hts _ (by decide +kernel)) (hts _ (by decide +kernel)) (hs _ (by decide +kernel)) (hs _ (by decide +kernel)) (fun j hj => ?_) hA
  match j, hj with
  | 0, _ => exact hs _ (by decide +kernel)
  | 1, _ => exact hs _ (by decide +kernel)
  | 2, _ => exact hs _ (by decide +kernel)
  | 3, _ => exact hs _ (by decide +kernel)
  | 4, _ => exact hs _ (by decide +kernel)
  | 5, _ => exact hs _ (by decide +kernel)
  | 6, _ => exact hs _ (by decide +kernel)
  | 7, _ => exact hs _ (by decide +kernel)
  | j + 8, hj => exact absurd hj (by omega)
set_option maxHeartbeats 8000000 in
set_option maxRecDepth 200000 in
theorem zt_t6 {b : Nat} {s : State} {A : Nat → Prop} (hts : ∀ w ∈ lw_tbl, w.before #[Value.ref b] s = true) (hs : ∀ c ∈ flatC (Jvm.Cond.and given_1 narrow_1), c.before #[Value.ref b] s = true) (hA : ∀ a : Nat, a < s.heap.size → ¬ A a) : ∃ t : Nat, va_Z (zt_C 6) (zt_n 6) "[I" (.ref t) A s s.heap ∧ va_T .int t (zt_N 6) (fun i => .int (zt_v 6 i)) A s s.heap := by
  refine zt_one (C := zt_C 6) (n := zt_n 6) (N := 8) (f := zt_v 6) (by decide) (hts _ (by decide +kernel)) (hts _ (by decide +kernel)) (hs _ (by decide +kernel)) (hs _ (by decide +kernel)) (fun j hj => ?_) hA
  match j, hj with
  | 0, _ => exact hs _ (by decide +kernel)
  | 1, _ => exact hs _ (by decide +kernel)
  | 2, _ => exact hs _ (by decide +kernel)
  | 3, _ => exact hs _ (by decide +kernel)
  | 4, _ => exact hs _ (by decide +kernel)
  | 5, _ => exact hs _ (by decide +kernel)
  | 6, _ => exact hs _ (by decide +kernel)
  | 7, _ => exact hs _ (by decide +kernel)
  | j + 8, hj => exact absurd hj (by omega)
set_option maxHeartbeats 8000000 in
set_option maxRecDepth 200000 in
theorem zt_t7 {b : Nat} {s : State} {A : Nat → Prop} (hts : ∀ w ∈ lw_tbl, w.before #[Value.ref b] s = true) (hs : ∀ c ∈ flatC (Jvm.Cond.and given_1 narrow_1), c.before #[Value.ref b] s = true) (hA : ∀ a : Nat, a < s.heap.size → ¬ A a) : ∃ t : Nat, va_Z (zt_C 7) (zt_n 7) "[I" (.ref t) A s s.heap ∧ va_T .int t (zt_N 7) (fun i => .int (zt_v 7 i)) A s s.heap := by
  refine zt_one (C := zt_C 7) (n := zt_n 7) (N := 4) (f := zt_v 7) (by decide) (hts _ (by decide +kernel)) (hts _ (by decide +kernel)) (hs _ (by decide +kernel)) (hs _ (by decide +kernel)) (fun j hj => ?_) hA
  match j, hj with
  | 0, _ => exact hs _ (by decide +kernel)
  | 1, _ => exact hs _ (by decide +kernel)
  | 2, _ => exact hs _ (by decide +kernel)
  | 3, _ => exact hs _ (by decide +kernel)
  | j + 4, hj => exact absurd hj (by omega)
set_option maxHeartbeats 8000000 in
set_option maxRecDepth 200000 in
theorem zt_t8 {b : Nat} {s : State} {A : Nat → Prop} (hts : ∀ w ∈ lw_tbl, w.before #[Value.ref b] s = true) (hs : ∀ c ∈ flatC (Jvm.Cond.and given_1 narrow_1), c.before #[Value.ref b] s = true) (hA : ∀ a : Nat, a < s.heap.size → ¬ A a) : ∃ t : Nat, va_Z (zt_C 8) (zt_n 8) "[I" (.ref t) A s s.heap ∧ va_T .int t (zt_N 8) (fun i => .int (zt_v 8 i)) A s s.heap := by
  refine zt_one (C := zt_C 8) (n := zt_n 8) (N := 4) (f := zt_v 8) (by decide) (hts _ (by decide +kernel)) (hts _ (by decide +kernel)) (hs _ (by decide +kernel)) (hs _ (by decide +kernel)) (fun j hj => ?_) hA
  match j, hj with
  | 0, _ => exact hs _ (by decide +kernel)
  | 1, _ => exact hs _ (by decide +kernel)
  | 2, _ => exact hs _ (by decide +kernel)
  | 3, _ => exact hs _ (by decide +kernel)
  | j + 4, hj => exact absurd hj (by omega)
set_option maxHeartbeats 8000000 in
set_option maxRecDepth 200000 in
theorem zt_t9 {b : Nat} {s : State} {A : Nat → Prop} (hts : ∀ w ∈ lw_tbl, w.before #[Value.ref b] s = true) (hs : ∀ c ∈ flatC (Jvm.Cond.and given_1 narrow_1), c.before #[Value.ref b] s = true) (hA : ∀ a : Nat, a < s.heap.size → ¬ A a) : ∃ t : Nat, va_Z (zt_C 9) (zt_n 9) "[I" (.ref t) A s s.heap ∧ va_T .int t (zt_N 9) (fun i => .int (zt_v 9 i)) A s s.heap := by
  refine zt_one (C := zt_C 9) (n := zt_n 9) (N := 3) (f := zt_v 9) (by decide) (hts _ (by decide +kernel)) (hts _ (by decide +kernel)) (hs _ (by decide +kernel)) (hs _ (by decide +kernel)) (fun j hj => ?_) hA
  match j, hj with
  | 0, _ => exact hs _ (by decide +kernel)
  | 1, _ => exact hs _ (by decide +kernel)
  | 2, _ => exact hs _ (by decide +kernel)
  | j + 3, hj => exact absurd hj (by omega)
set_option maxHeartbeats 8000000 in
set_option maxRecDepth 200000 in
theorem zt_t10 {b : Nat} {s : State} {A : Nat → Prop} (hts : ∀ w ∈ lw_tbl, w.before #[Value.ref b] s = true) (hs : ∀ c ∈ flatC (Jvm.Cond.and given_1 narrow_1), c.before #[Value.ref b] s = true) (hA : ∀ a : Nat, a < s.heap.size → ¬ A a) : ∃ t : Nat, va_Z (zt_C 10) (zt_n 10) "[I" (.ref t) A s s.heap ∧ va_T .int t (zt_N 10) (fun i => .int (zt_v 10 i)) A s s.heap := by
  refine zt_one (C := zt_C 10) (n := zt_n 10) (N := 11) (f := zt_v 10) (by decide) (hts _ (by decide +kernel)) (hts _ (by decide +kernel)) (hs _ (by decide +kernel)) (hs _ (by decide +kernel)) (fun j hj => ?_) hA
  match j, hj with
  | 0, _ => exact hs _ (by decide +kernel)
  | 1, _ => exact hs _ (by decide +kernel)
  | 2, _ => exact hs _ (by decide +kernel)
  | 3, _ => exact hs _ (by decide +kernel)
  | 4, _ => exact hs _ (by decide +kernel)
  | 5, _ => exact hs _ (by decide +kernel)
  | 6, _ => exact hs _ (by decide +kernel)
  | 7, _ => exact hs _ (by decide +kernel)
  | 8, _ => exact hs _ (by decide +kernel)
  | 9, _ => exact hs _ (by decide +kernel)
  | 10, _ => exact hs _ (by decide +kernel)
  | j + 11, hj => exact absurd hj (by omega)
set_option maxHeartbeats 8000000 in
set_option maxRecDepth 200000 in
theorem zt_t11 {b : Nat} {s : State} {A : Nat → Prop} (hts : ∀ w ∈ lw_tbl, w.before #[Value.ref b] s = true) (hs : ∀ c ∈ flatC (Jvm.Cond.and given_1 narrow_1), c.before #[Value.ref b] s = true) (hA : ∀ a : Nat, a < s.heap.size → ¬ A a) : ∃ t : Nat, va_Z (zt_C 11) (zt_n 11) "[I" (.ref t) A s s.heap ∧ va_T .int t (zt_N 11) (fun i => .int (zt_v 11 i)) A s s.heap := by
  refine zt_one (C := zt_C 11) (n := zt_n 11) (N := 8) (f := zt_v 11) (by decide) (hts _ (by decide +kernel)) (hts _ (by decide +kernel)) (hs _ (by decide +kernel)) (hs _ (by decide +kernel)) (fun j hj => ?_) hA
  match j, hj with
  | 0, _ => exact hs _ (by decide +kernel)
  | 1, _ => exact hs _ (by decide +kernel)
  | 2, _ => exact hs _ (by decide +kernel)
  | 3, _ => exact hs _ (by decide +kernel)
  | 4, _ => exact hs _ (by decide +kernel)
  | 5, _ => exact hs _ (by decide +kernel)
  | 6, _ => exact hs _ (by decide +kernel)
  | 7, _ => exact hs _ (by decide +kernel)
  | j + 8, hj => exact absurd hj (by omega)
set_option maxHeartbeats 8000000 in
set_option maxRecDepth 200000 in
theorem zt_t12 {b : Nat} {s : State} {A : Nat → Prop} (hts : ∀ w ∈ lw_tbl, w.before #[Value.ref b] s = true) (hs : ∀ c ∈ flatC (Jvm.Cond.and given_1 narrow_1), c.before #[Value.ref b] s = true) (hA : ∀ a : Nat, a < s.heap.size → ¬ A a) : ∃ t : Nat, va_Z (zt_C 12) (zt_n 12) "[I" (.ref t) A s s.heap ∧ va_T .int t (zt_N 12) (fun i => .int (zt_v 12 i)) A s s.heap := by
  refine zt_one (C := zt_C 12) (n := zt_n 12) (N := 8) (f := zt_v 12) (by decide) (hts _ (by decide +kernel)) (hts _ (by decide +kernel)) (hs _ (by decide +kernel)) (hs _ (by decide +kernel)) (fun j hj => ?_) hA
  match j, hj with
  | 0, _ => exact hs _ (by decide +kernel)
  | 1, _ => exact hs _ (by decide +kernel)
  | 2, _ => exact hs _ (by decide +kernel)
  | 3, _ => exact hs _ (by decide +kernel)
  | 4, _ => exact hs _ (by decide +kernel)
  | 5, _ => exact hs _ (by decide +kernel)
  | 6, _ => exact hs _ (by decide +kernel)
  | 7, _ => exact hs _ (by decide +kernel)
  | j + 8, hj => exact absurd hj (by omega)
theorem zt_all {b : Nat} {s : State} {A : Nat → Prop} (hts : ∀ w ∈ lw_tbl, w.before #[Value.ref b] s = true) (hs : ∀ c ∈ flatC (Jvm.Cond.and given_1 narrow_1), c.before #[Value.ref b] s = true) (hA : ∀ a : Nat, a < s.heap.size → ¬ A a) : ∃ tb : Nat → Nat, ∀ j, j < 13 → va_Z (zt_C j) (zt_n j) "[I" (.ref (tb j)) A s s.heap ∧ va_T .int (tb j) (zt_N j) (fun i => .int (zt_v j i)) A s s.heap := by
  obtain ⟨t0, h0⟩ := zt_t0 hts hs hA
  obtain ⟨t1, h1⟩ := zt_t1 hts hs hA
  obtain ⟨t2, h2⟩ := zt_t2 hts hs hA
  obtain ⟨t3, h3⟩ := zt_t3 hts hs hA
  obtain ⟨t4, h4⟩ := zt_t4 hts hs hA
  obtain ⟨t5, h5⟩ := zt_t5 hts hs hA
  obtain ⟨t6, h6⟩ := zt_t6 hts hs hA
  obtain ⟨t7, h7⟩ := zt_t7 hts hs hA
  obtain ⟨t8, h8⟩ := zt_t8 hts hs hA
  obtain ⟨t9, h9⟩ := zt_t9 hts hs hA
  obtain ⟨t10, h10⟩ := zt_t10 hts hs hA
  obtain ⟨t11, h11⟩ := zt_t11 hts hs hA
  obtain ⟨t12, h12⟩ := zt_t12 hts hs hA
  refine ⟨fun j => ([t0, t1, t2, t3, t4, t5, t6, t7, t8, t9, t10, t11, t12] : List Nat).getD j 0, fun j hj => ?_⟩
  match j, hj with
  | 0, _ => exact h0
  | 1, _ => exact h1
  | 2, _ => exact h2
  | 3, _ => exact h3
  | 4, _ => exact h4
  | 5, _ => exact h5
  | 6, _ => exact h6
  | 7, _ => exact h7
  | 8, _ => exact h8
  | 9, _ => exact h9
  | 10, _ => exact h10
  | 11, _ => exact h11
  | 12, _ => exact h12
  | j + 13, hj => exact absurd hj (by omega)
theorem zk_in : ∀ x ∈ zk_S, Cond.stringRef "VoiceFrames" x.1 x.2 ∈ lw_tbl := by decide +kernel
theorem zn_in : ∀ x ∈ zn_F, Cond.fieldLinkNest x.1 x.2.1 x.2.2.1 x.2.2.2.1 x.2.2.2.2 "VoiceFrames" ∈ lw_tbl := by decide +kernel
theorem zx_F_in : ∀ w ∈ zx_F, w ∈ lw_tbl := by decide +kernel
theorem zi_arr {args : Array Value} {s : State} {ty : FieldType} (h : (Cond.arrayClass ty).before args s = true) : ∃ cA : ClassId, ArrOfT s cA ty ∧ s.vm.findClass ("[" ++ ty.toString) = some cA := by
  obtain ⟨cA, k, comp, h1, h2, h3⟩ := Cond.arrayClass_spec (args := args) (first := s) (o := none) (s := s) (idx := []) h
  exact ⟨cA, fun n z => ⟨fun k h => (by cases h), k, h2, comp, h3⟩, h1⟩
set_option maxHeartbeats 8000000 in
set_option maxRecDepth 200000 in
theorem zg_known {b : Nat} {s : State} (hts : ∀ w ∈ lw_tbl, w.before #[Value.ref b] s = true) : ∃ D : va_G, ∀ (k : Nat) (x : vw_C), vwCl[k]? = some x → u_Kn s x.1 x.2.1 x.2.2 (D.1 k) (D.2 k) := by
  obtain ⟨c0, i0, h0⟩ := u_known (C := RX0) (T := TX0) (N := 7) (n := 7) hts (by decide +kernel) (hts (.instantiable RX0 7) (by decide +kernel))
  obtain ⟨c1, i1, h1⟩ := u_known (C := RX1) (T := TX1) (N := 10) (n := 10) hts (by decide +kernel) (hts (.instantiable RX1 10) (by decide +kernel))
  obtain ⟨c2, i2, h2⟩ := u_known (C := RX2) (T := TX2) (N := 3) (n := 3) hts (by decide +kernel) (hts (.instantiable RX2 3) (by decide +kernel))
  obtain ⟨c3, i3, h3⟩ := u_known (C := RX3) (T := TX3) (N := 3) (n := 3) hts (by decide +kernel) (hts (.instantiable RX3 3) (by decide +kernel))
  obtain ⟨c4, i4, h4⟩ := u_known (C := RX5) (T := TX5) (N := 2) (n := 2) hts (by decide +kernel) (hts (.instantiable RX5 2) (by decide +kernel))
  obtain ⟨c5, i5, h5⟩ := u_known (C := RX6) (T := TX6) (N := 5) (n := 5) hts (by decide +kernel) (hts (.instantiable RX6 5) (by decide +kernel))
  obtain ⟨c6, i6, h6⟩ := u_known (C := RX7) (T := TX7) (N := 3) (n := 3) hts (by decide +kernel) (hts (.instantiable RX7 3) (by decide +kernel))
  obtain ⟨c7, i7, h7⟩ := u_known (C := RX8) (T := TX8) (N := 3) (n := 3) hts (by decide +kernel) (hts (.instantiable RX8 3) (by decide +kernel))
  obtain ⟨c8, i8, h8⟩ := u_known (C := RX9) (T := TX9) (N := 4) (n := 4) hts (by decide +kernel) (hts (.instantiable RX9 4) (by decide +kernel))
  obtain ⟨c9, i9, h9⟩ := u_known (C := RX10) (T := TX10) (N := 8) (n := 8) hts (by decide +kernel) (hts (.instantiable RX10 8) (by decide +kernel))
  obtain ⟨c10, i10, h10⟩ := u_known (C := RX11) (T := TX11) (N := 30) (n := 30) hts (by decide +kernel) (hts (.instantiable RX11 30) (by decide +kernel))
  refine ⟨(fun k => ([c0, c1, c2, c3, c4, c5, c6, c7, c8, c9, c10] : List ClassId).getD k c0, fun k => ([i0, i1, i2, i3, i4, i5, i6, i7, i8, i9, i10] : List (Nat → Nat)).getD k i0), fun k x hx => ?_⟩
  match k, hx with
  | 0, hx => cases hx; exact h0
  | 1, hx => cases hx; exact h1
  | 2, hx => cases hx; exact h2
  | 3, hx => cases hx; exact h3
  | 4, hx => cases hx; exact h4
  | 5, hx => cases hx; exact h5
  | 6, hx => cases hx; exact h6
  | 7, hx => cases hx; exact h7
  | 8, hx => cases hx; exact h8
  | 9, hx => cases hx; exact h9
  | 10, hx => cases hx; exact h10
  | k + 11, hx => exact absurd hx (by simp [vwCl])
theorem zg_start {b : Nat} {s : State} (hts : ∀ w ∈ lw_tbl, w.before #[Value.ref b] s = true) (hgv : (Jvm.Cond.and given_1 narrow_1).before #[Value.ref b] s = true) : ∃ (D : va_G) (i j : ClassId) (tb : Nat → Nat), ∀ q : Nat → Nat, zg_E (D, i, j, q, tb, s.heap.size) s := by
  have hs := flat_of_before _ hgv
  have hA : ∀ a : Nat, a < s.heap.size → ¬ (fun x => s.heap.size ≤ x) a := fun a h => Nat.not_le.mpr h
  obtain ⟨D, hD⟩ := zg_known hts
  obtain ⟨i, hi1, hi2⟩ := zi_arr (ty := .int) (hts _ (by decide +kernel))
  obtain ⟨j, hj1, hj2⟩ := zi_arr (ty := .long) (hts _ (by decide +kernel))
  obtain ⟨tb, htb⟩ := zt_all hts hs hA
  refine ⟨D, i, j, tb, fun q => ⟨⟨hD, fun k x hx => ?_⟩, Nat.le_refl _, fun x hx => va_Nw.of rfl (hts _ (zn_in x hx)), va_Nw.of rfl (hts _ (by decide +kernel)), htb, ?_, ?_, fun x hx => ?_, fun w hw => va_Nw.of (zx_F_ok w hw).2 (hts _ (zx_F_in w hw)), va_Nc.of (hs _ (by decide +kernel))⟩⟩
  · match k, hx with
    | 0, hx => cases hx; exact ⟨hi1, hi2⟩
    | 1, hx => cases hx; exact ⟨hj1, hj2⟩
  · exact vx_Zqof (hts _ (by decide +kernel)) (hts _ (by decide +kernel)) (hs _ (by decide +kernel)) hA
  · exact vx_Zqof (hts _ (by decide +kernel)) (hts _ (by decide +kernel)) (hs _ (by decide +kernel)) hA
  · have h1 := hts _ (zk_in x hx)
    obtain ⟨c9, i9, h9⟩ := u_known (C := RX10) (T := TX10) (N := 8) (n := 8) hts (by decide +kernel) (hts (.instantiable RX10 8) (by decide +kernel))
    obtain ⟨k, cf, i, a, -, -, -, -, -, hev⟩ := Cond.stringRef_spec (args := #[Value.ref b]) (first := s) (o := none) (s := s) (idx := []) h9.2.1 h1
    exact ⟨a, vk_R.of (A := #[Value.ref b]) h1 hev⟩
