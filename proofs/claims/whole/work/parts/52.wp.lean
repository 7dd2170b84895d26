/-! a target T, walked back through the pure functions -/
def zQ {R : Type} (P : R → Prop) (o : Option R) : Prop := ∃ r, o = some r ∧ P r
theorem zQ.of {R : Type} {P : R → Prop} {o : Option R} (h : ∀ T : Option R → Prop, (∀ r, P r → T (some r)) → T o) : zQ P o := h (zQ P) (fun r hr => ⟨r, rfl, hr⟩)
theorem zQ.mo {R : Type} {P P1 : R → Prop} {o : Option R} (h : zQ P o) (hp : ∀ r, P r → P1 r) : zQ P1 o := by obtain ⟨r, e, hr⟩ := h; exact ⟨r, e, hp r hr⟩
theorem zU1 {A O : Type} {rec : A → Option O} {R : A → Prop} {o : Option O} (h : ∀ T : Option O → Prop, (∀ a, R a → T (rec a)) → T o) : ∃ a, R a ∧ o = rec a := h (fun o => ∃ a, R a ∧ o = rec a) (fun a h => ⟨a, h, rfl⟩)
theorem zU2 {A B O : Type} {rec : A → B → Option O} {R : A → B → Prop} {o : Option O} (h : ∀ T : Option O → Prop, (∀ a b, R a b → T (rec a b)) → T o) : ∃ a b, R a b ∧ o = rec a b := h (fun o => ∃ a b, R a b ∧ o = rec a b) (fun a b h => ⟨a, b, h, rfl⟩)
theorem zU3 {A B C O : Type} {rec : A → B → C → Option O} {R : A → B → C → Prop} {o : Option O} (h : ∀ T : Option O → Prop, (∀ a b c, R a b c → T (rec a b c)) → T o) : ∃ a b c, R a b c ∧ o = rec a b c := h (fun o => ∃ a b c, R a b c ∧ o = rec a b c) (fun a b c h => ⟨a, b, c, h, rfl⟩)
theorem zU4 {A B C D O : Type} {rec : A → B → C → D → Option O} {R : A → B → C → D → Prop} {o : Option O} (h : ∀ T : Option O → Prop, (∀ a b c d, R a b c d → T (rec a b c d)) → T o) : ∃ a b c d, R a b c d ∧ o = rec a b c d := h (fun o => ∃ a b c d, R a b c d ∧ o = rec a b c d) (fun a b c d h => ⟨a, b, c, d, h, rfl⟩)
theorem zT_lt {α R : Type} {T : R → Prop} {x : α} {f : α → R} (h : ∀ v, v = x → T (f v)) : T (zc_lt x f) := h x rfl
theorem zT_gi {R : Type} {T : Option R → Prop} {i : Int32} {n j : Nat} {x : Option R} (h : i.toInt = j) (hj : j < n) (k : T x) : T (zc_gi i n x) := by rw [zg_in h hj]; exact k
theorem zT_nz {R : Type} {T : Option R → Prop} {y : Int32} {x : Option R} (h : ¬ y = 0) (k : T x) : T (zc_nz y x) := by unfold zc_nz; rw [if_neg h]; exact k
theorem zT_nl {R : Type} {T : Option R → Prop} {y : Int64} {x : Option R} (h : ¬ y = 0) (k : T x) : T (zc_nl y x) := by unfold zc_nl; rw [if_neg h]; exact k
theorem zT_if {R : Type} {T : R → Prop} {c : Prop} [Decidable c] {a b : R} (ht : c → T a) (hf : ¬ c → T b) : T (if c then a else b) := by
  by_cases h : c
  · rw [if_pos h]; exact ht h
  · rw [if_neg h]; exact hf h
theorem zT_ift {R : Type} {T : R → Prop} {c : Prop} [Decidable c] {a b : R} (h : c) (k : T a) : T (if c then a else b) := by rw [if_pos h]; exact k
theorem zT_iff {R : Type} {T : R → Prop} {c : Prop} [Decidable c] {a b : R} (h : ¬ c) (k : T b) : T (if c then a else b) := by rw [if_neg h]; exact k
theorem zT_b1 {A R : Type} {T : Option R → Prop} {x : Option A} {f : A → Option R} {P : A → Prop} (hx : zQ P x) (h : ∀ a, P a → T (f a)) : T (zc_b1 x f) := by
  obtain ⟨a, e, ha⟩ := hx
  rw [e]; exact h a ha
theorem zT_b2 {A B R : Type} {T : Option R → Prop} {x : Option (A × B)} {f : A → B → Option R} {P : A × B → Prop} (hx : zQ P x) (h : ∀ a b, P (a, b) → T (f a b)) : T (zc_b2 x f) := by
  obtain ⟨⟨a, b⟩, e, ha⟩ := hx
  rw [e]; exact h a b ha
theorem zT_b3 {A B C R : Type} {T : Option R → Prop} {x : Option (A × B × C)} {f : A → B → C → Option R} {P : A × B × C → Prop} (hx : zQ P x) (h : ∀ a b c, P (a, b, c) → T (f a b c)) : T (zc_b3 x f) := by
  obtain ⟨⟨a, b, c⟩, e, ha⟩ := hx
  rw [e]; exact h a b c ha
/-- loops again, the turn's end by a target -/
theorem zQ_for {A O : Type} (b : (A → Int32 → Option O) → A → Int32 → Option O) (N : Nat) (P : Nat → A → Prop) (F : O → Prop)
    (hstep : ∀ i a, i < N → P i a → ∀ (rec : A → Int32 → Option O) (T : Option O → Prop), (∀ a1, P (i + 1) a1 → T (rec a1 (nI (i + 1)))) → T (b rec a (nI i)))
    (hend : ∀ a, P N a → ∀ (rec : A → Int32 → Option O) (T : Option O → Prop), (∀ o, F o → T (some o)) → T (b rec a (nI N))) :
    ∀ (f i : Nat) (a : A), i ≤ N → N - i < f → P i a → zQ F (zl_2 b f a (nI i)) := by
  intro f
  induction f with
  | zero => intro i a h1 h2; exact absurd h2 (Nat.not_lt_zero _)
  | succ f ih =>
    intro i a h1 h2 hp
    by_cases c : i < N
    · exact hstep i a c hp (zl_2 b f) (zQ F) (fun a1 hp1 => ih (i + 1) a1 c (by omega) hp1)
    · have : i = N := by omega
      subst this
      exact hend a hp (zl_2 b f) (zQ F) (fun o ho => ⟨o, rfl, ho⟩)
theorem zQ_for3 {A B O : Type} (b : (A → B → Int32 → Option O) → A → B → Int32 → Option O) (N : Nat) (P : Nat → A → B → Prop) (F : O → Prop)
    (hstep : ∀ i a c, i < N → P i a c → ∀ (rec : A → B → Int32 → Option O) (T : Option O → Prop), (∀ a1 c1, P (i + 1) a1 c1 → T (rec a1 c1 (nI (i + 1)))) → T (b rec a c (nI i)))
    (hend : ∀ a c, P N a c → ∀ (rec : A → B → Int32 → Option O) (T : Option O → Prop), (∀ o, F o → T (some o)) → T (b rec a c (nI N))) :
    ∀ (f i : Nat) (a : A) (c : B), i ≤ N → N - i < f → P i a c → zQ F (zl_3 b f a c (nI i)) := by
  intro f
  induction f with
  | zero => intro i a c h1 h2; exact absurd h2 (Nat.not_lt_zero _)
  | succ f ih =>
    intro i a d h1 h2 hp
    by_cases c : i < N
    · exact hstep i a d c hp (zl_3 b f) (zQ F) (fun a1 c1 hp1 => ih (i + 1) a1 c1 c (by omega) hp1)
    · have : i = N := by omega
      subst this
      exact hend a d hp (zl_3 b f) (zQ F) (fun o ho => ⟨o, rfl, ho⟩)
theorem zQ_for4 {A B C O : Type} (b : (A → B → C → Int32 → Option O) → A → B → C → Int32 → Option O) (N : Nat) (P : Nat → A → B → C → Prop) (F : O → Prop)
    (hstep : ∀ i a c d, i < N → P i a c d → ∀ (rec : A → B → C → Int32 → Option O) (T : Option O → Prop), (∀ a1 c1 d1, P (i + 1) a1 c1 d1 → T (rec a1 c1 d1 (nI (i + 1)))) → T (b rec a c d (nI i)))
    (hend : ∀ a c d, P N a c d → ∀ (rec : A → B → C → Int32 → Option O) (T : Option O → Prop), (∀ o, F o → T (some o)) → T (b rec a c d (nI N))) :
    ∀ (f i : Nat) (a : A) (c : B) (d : C), i ≤ N → N - i < f → P i a c d → zQ F (zl_4 b f a c d (nI i)) := by
  intro f
  induction f with
  | zero => intro i a c d h1 h2; exact absurd h2 (Nat.not_lt_zero _)
  | succ f ih =>
    intro i a d x h1 h2 hp
    by_cases c : i < N
    · exact hstep i a d x c hp (zl_4 b f) (zQ F) (fun a1 c1 d1 hp1 => ih (i + 1) a1 c1 d1 c (by omega) hp1)
    · have : i = N := by omega
      subst this
      exact hend a d x hp (zl_4 b f) (zQ F) (fun o ho => ⟨o, rfl, ho⟩)
theorem zp_near {a : Int64} {x : Int} (h : a.toInt = x) : (zf_X3_nearestInt a).toInt = zz_wide x := by
  subst h
  have e1 : (-2147483648 : Int64).toInt = -2147483648 := by decide
  have e2 : (2147483647 : Int64).toInt = 2147483647 := by decide
  have e3 : (Int64.toInt32 (2147483647 : Int64)).toInt = 2147483647 := by decide
  have e4 : (Int64.toInt32 (-2147483648 : Int64)).toInt = -2147483648 := by decide
  unfold zf_X3_nearestInt zj_X3_nearestInt_15 zz_wide
  simp only [zb_le, e1, e2]
  by_cases c1 : -2147483648 ≤ a.toInt
  · rw [if_pos c1]
    by_cases c2 : a.toInt ≤ 2147483647
    · rw [if_pos c2, za_l2i rfl c1 c2, if_neg (by omega), if_neg (by omega)]
    · rw [if_neg c2, e3, if_neg (by omega), if_pos (by omega)]
  · rw [if_neg c1, if_pos (by omega), e4, if_pos (by omega)]
