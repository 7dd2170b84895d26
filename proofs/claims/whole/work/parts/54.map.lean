/-! loops that write a row, and loops that go on for a while -/
theorem zQ_mapI (b : (zs_T → Int32 → Option zs_T) → zs_T → Int32 → Option zs_T) (N k : Nat) (p : Nat → Nat) (P0 : Nat → Prop) (F : Nat → Int) (S : zs_T) (hp : ∀ s t, s < N → t < N → p s = p t → s = t) (h0 : ∀ t, t < N → P0 (p t)) (hN : N < 600)
    (hstep : ∀ i S1, i < N → zF (fun k1 j => k1 = k ∧ P0 j) zF_0 S S1 → (∀ t, i ≤ t → t < N → S1.1 k (p t) = S.1 k (p t)) → (∀ t, t < i → (S1.1 k (p t)).toInt = F t) → ∀ (rec : zs_T → Int32 → Option zs_T) (T : Option zs_T → Prop), (∀ v : Int32, v.toInt = F i → T (rec (zs_wi S1 k (p i) v) (nI (i + 1)))) → T (b rec S1 (nI i)))
    (hend : ∀ S1, zF (fun k1 j => k1 = k ∧ P0 j) zF_0 S S1 → ∀ (rec : zs_T → Int32 → Option zs_T) (T : Option zs_T → Prop), T (some S1) → T (b rec S1 (nI N))) :
    zQ (fun S1 => zF (fun k1 j => k1 = k ∧ P0 j) zF_0 S S1 ∧ ∀ t, t < N → (S1.1 k (p t)).toInt = F t) (zl_2 b 600 S (nI 0)) := by
  refine zQ_for b N (fun i S1 => zF (fun k1 j => k1 = k ∧ P0 j) zF_0 S S1 ∧ (∀ t, i ≤ t → t < N → S1.1 k (p t) = S.1 k (p t)) ∧ ∀ t, t < i → (S1.1 k (p t)).toInt = F t) _ ?_ ?_ 600 0 S (Nat.zero_le _) (by omega) ⟨zF.rf S, fun t _ _ => rfl, fun t ht => absurd ht (Nat.not_lt_zero t)⟩
  · intro i S1 hi h rec T hT
    refine hstep i S1 hi h.1 h.2.1 h.2.2 rec T (fun v hv => hT _ ⟨h.1.wi v ⟨rfl, h0 i hi⟩, fun t h1 h2 => ?_, fun t ht => ?_⟩)
    · rw [zs_in _ _ (fun z => by have := hp t i h2 hi z.2; omega)]; exact h.2.1 t (by omega) h2
    · by_cases c : t = i
      · subst c; rw [zs_ii]; exact hv
      · rw [zs_in _ _ (fun z => c (hp t i (by omega) hi z.2))]; exact h.2.2 t (by omega)
  · intro S1 h rec T hT
    exact hend S1 h.1 rec T (hT S1 ⟨h.1, h.2.2⟩)
theorem zQ_mapL (b : (zs_T → Int32 → Option zs_T) → zs_T → Int32 → Option zs_T) (N k : Nat) (p : Nat → Nat) (P0 : Nat → Prop) (F : Nat → Int) (S : zs_T) (hp : ∀ s t, s < N → t < N → p s = p t → s = t) (h0 : ∀ t, t < N → P0 (p t)) (hN : N < 600)
    (hstep : ∀ i S1, i < N → zF zF_0 (fun k1 j => k1 = k ∧ P0 j) S S1 → (∀ t, i ≤ t → t < N → S1.2 k (p t) = S.2 k (p t)) → (∀ t, t < i → (S1.2 k (p t)).toInt = F t) → ∀ (rec : zs_T → Int32 → Option zs_T) (T : Option zs_T → Prop), (∀ v : Int64, v.toInt = F i → T (rec (zs_wl S1 k (p i) v) (nI (i + 1)))) → T (b rec S1 (nI i)))
    (hend : ∀ S1, zF zF_0 (fun k1 j => k1 = k ∧ P0 j) S S1 → ∀ (rec : zs_T → Int32 → Option zs_T) (T : Option zs_T → Prop), T (some S1) → T (b rec S1 (nI N))) :
    zQ (fun S1 => zF zF_0 (fun k1 j => k1 = k ∧ P0 j) S S1 ∧ ∀ t, t < N → (S1.2 k (p t)).toInt = F t) (zl_2 b 600 S (nI 0)) := by
  refine zQ_for b N (fun i S1 => zF zF_0 (fun k1 j => k1 = k ∧ P0 j) S S1 ∧ (∀ t, i ≤ t → t < N → S1.2 k (p t) = S.2 k (p t)) ∧ ∀ t, t < i → (S1.2 k (p t)).toInt = F t) _ ?_ ?_ 600 0 S (Nat.zero_le _) (by omega) ⟨zF.rf S, fun t _ _ => rfl, fun t ht => absurd ht (Nat.not_lt_zero t)⟩
  · intro i S1 hi h rec T hT
    refine hstep i S1 hi h.1 h.2.1 h.2.2 rec T (fun v hv => hT _ ⟨h.1.wl v ⟨rfl, h0 i hi⟩, fun t h1 h2 => ?_, fun t ht => ?_⟩)
    · rw [zs_ln _ _ (fun z => by have := hp t i h2 hi z.2; omega)]; exact h.2.1 t (by omega) h2
    · by_cases c : t = i
      · subst c; rw [zs_ll]; exact hv
      · rw [zs_ln _ _ (fun z => c (hp t i (by omega) hi z.2))]; exact h.2.2 t (by omega)
  · intro S1 h rec T hT
    exact hend S1 h.1 rec T (hT S1 ⟨h.1, h.2.2⟩)
/-- two int rows, ka first -/
theorem zQ_mapII (b : (zs_T → Int32 → Option zs_T) → zs_T → Int32 → Option zs_T) (N ka kb : Nat) (hk : ka ≠ kb) (F G : Nat → Int) (S : zs_T) (hN : N < 600)
    (hstep : ∀ i S1, i < N → zF (fun k1 j => (k1 = ka ∨ k1 = kb) ∧ j < N) zF_0 S S1 → (∀ t, i ≤ t → t < N → S1.1 ka t = S.1 ka t ∧ S1.1 kb t = S.1 kb t) → (∀ t, t < i → (S1.1 ka t).toInt = F t ∧ (S1.1 kb t).toInt = G t) → ∀ (rec : zs_T → Int32 → Option zs_T) (T : Option zs_T → Prop), (∀ v w : Int32, v.toInt = F i → w.toInt = G i → T (rec (zs_wi (zs_wi S1 ka i v) kb i w) (nI (i + 1)))) → T (b rec S1 (nI i)))
    (hend : ∀ S1, zF (fun k1 j => (k1 = ka ∨ k1 = kb) ∧ j < N) zF_0 S S1 → ∀ (rec : zs_T → Int32 → Option zs_T) (T : Option zs_T → Prop), T (some S1) → T (b rec S1 (nI N))) :
    zQ (fun S1 => zF (fun k1 j => (k1 = ka ∨ k1 = kb) ∧ j < N) zF_0 S S1 ∧ (∀ t, t < N → (S1.1 ka t).toInt = F t) ∧ ∀ t, t < N → (S1.1 kb t).toInt = G t) (zl_2 b 600 S (nI 0)) := by
  refine zQ_for b N (fun i S1 => zF (fun k1 j => (k1 = ka ∨ k1 = kb) ∧ j < N) zF_0 S S1 ∧ (∀ t, i ≤ t → t < N → S1.1 ka t = S.1 ka t ∧ S1.1 kb t = S.1 kb t) ∧ ∀ t, t < i → (S1.1 ka t).toInt = F t ∧ (S1.1 kb t).toInt = G t) _ ?_ ?_ 600 0 S (Nat.zero_le _) (by omega) ⟨zF.rf S, fun t _ _ => ⟨rfl, rfl⟩, fun t ht => absurd ht (Nat.not_lt_zero t)⟩
  · intro i S1 hi h rec T hT
    refine hstep i S1 hi h.1 h.2.1 h.2.2 rec T (fun v w hv hw => hT _ ⟨(h.1.wi v ⟨Or.inl rfl, hi⟩).wi w ⟨Or.inr rfl, hi⟩, fun t h1 h2 => ?_, fun t ht => ?_⟩)
    · rw [zs_in _ _ (by omega), zs_in _ _ (by omega), zs_in _ _ (by omega), zs_in _ _ (by omega)]; exact h.2.1 t (by omega) h2
    · by_cases c : t = i
      · subst c; rw [zs_in _ _ (by omega), zs_ii, zs_ii]; exact ⟨hv, hw⟩
      · rw [zs_in _ _ (by omega), zs_in _ _ (by omega), zs_in _ _ (by omega), zs_in _ _ (by omega)]; exact h.2.2 t (by omega)
  · intro S1 h rec T hT
    exact hend S1 h.1 rec T (hT S1 ⟨h.1, fun t ht => (h.2.2 t ht).1, fun t ht => (h.2.2 t ht).2⟩)
theorem zQ_mapLL (b : (zs_T → Int32 → Option zs_T) → zs_T → Int32 → Option zs_T) (N ka kb : Nat) (hk : ka ≠ kb) (F G : Nat → Int) (S : zs_T) (hN : N < 600)
    (hstep : ∀ i S1, i < N → zF zF_0 (fun k1 j => (k1 = ka ∨ k1 = kb) ∧ j < N) S S1 → (∀ t, i ≤ t → t < N → S1.2 ka t = S.2 ka t ∧ S1.2 kb t = S.2 kb t) → (∀ t, t < i → (S1.2 ka t).toInt = F t ∧ (S1.2 kb t).toInt = G t) → ∀ (rec : zs_T → Int32 → Option zs_T) (T : Option zs_T → Prop), (∀ v w : Int64, v.toInt = F i → w.toInt = G i → T (rec (zs_wl (zs_wl S1 ka i v) kb i w) (nI (i + 1)))) → T (b rec S1 (nI i)))
    (hend : ∀ S1, zF zF_0 (fun k1 j => (k1 = ka ∨ k1 = kb) ∧ j < N) S S1 → ∀ (rec : zs_T → Int32 → Option zs_T) (T : Option zs_T → Prop), T (some S1) → T (b rec S1 (nI N))) :
    zQ (fun S1 => zF zF_0 (fun k1 j => (k1 = ka ∨ k1 = kb) ∧ j < N) S S1 ∧ (∀ t, t < N → (S1.2 ka t).toInt = F t) ∧ ∀ t, t < N → (S1.2 kb t).toInt = G t) (zl_2 b 600 S (nI 0)) := by
  refine zQ_for b N (fun i S1 => zF zF_0 (fun k1 j => (k1 = ka ∨ k1 = kb) ∧ j < N) S S1 ∧ (∀ t, i ≤ t → t < N → S1.2 ka t = S.2 ka t ∧ S1.2 kb t = S.2 kb t) ∧ ∀ t, t < i → (S1.2 ka t).toInt = F t ∧ (S1.2 kb t).toInt = G t) _ ?_ ?_ 600 0 S (Nat.zero_le _) (by omega) ⟨zF.rf S, fun t _ _ => ⟨rfl, rfl⟩, fun t ht => absurd ht (Nat.not_lt_zero t)⟩
  · intro i S1 hi h rec T hT
    refine hstep i S1 hi h.1 h.2.1 h.2.2 rec T (fun v w hv hw => hT _ ⟨(h.1.wl v ⟨Or.inl rfl, hi⟩).wl w ⟨Or.inr rfl, hi⟩, fun t h1 h2 => ?_, fun t ht => ?_⟩)
    · rw [zs_ln _ _ (by omega), zs_ln _ _ (by omega), zs_ln _ _ (by omega), zs_ln _ _ (by omega)]; exact h.2.1 t (by omega) h2
    · by_cases c : t = i
      · subst c; rw [zs_ln _ _ (by omega), zs_ll, zs_ll]; exact ⟨hv, hw⟩
      · rw [zs_ln _ _ (by omega), zs_ln _ _ (by omega), zs_ln _ _ (by omega), zs_ln _ _ (by omega)]; exact h.2.2 t (by omega)
  · intro S1 h rec T hT
    exact hend S1 h.1 rec T (hT S1 ⟨h.1, fun t ht => (h.2.2 t ht).1, fun t ht => (h.2.2 t ht).2⟩)
/-- loops that go on for at most M turns -/
theorem zQ_wh1 {A O : Type} (b : (A → Option O) → A → Option O) (M : Nat) (P : Nat → A → Prop) (F : O → Prop)
    (hstep : ∀ i a, P i a → ∀ (rec : A → Option O) (T : Option O → Prop), (∀ o, F o → T (some o)) → (∀ a1, i < M → P (i + 1) a1 → T (rec a1)) → T (b rec a)) :
    ∀ (f i : Nat) (a : A), i ≤ M → M - i < f → P i a → zQ F (zl_1 b f a) := by
  intro f
  induction f with
  | zero => intro i a h1 h2; exact absurd h2 (Nat.not_lt_zero _)
  | succ f ih =>
    intro i a h1 h2 hp
    exact hstep i a hp (zl_1 b f) (zQ F) (fun o ho => ⟨o, rfl, ho⟩) (fun a1 hi hp1 => ih (i + 1) a1 hi (by omega) hp1)
theorem zQ_wh2 {A B O : Type} (b : (A → B → Option O) → A → B → Option O) (M : Nat) (P : Nat → A → B → Prop) (F : O → Prop)
    (hstep : ∀ i a c, P i a c → ∀ (rec : A → B → Option O) (T : Option O → Prop), (∀ o, F o → T (some o)) → (∀ a1 c1, i < M → P (i + 1) a1 c1 → T (rec a1 c1)) → T (b rec a c)) :
    ∀ (f i : Nat) (a : A) (c : B), i ≤ M → M - i < f → P i a c → zQ F (zl_2 b f a c) := by
  intro f
  induction f with
  | zero => intro i a c h1 h2; exact absurd h2 (Nat.not_lt_zero _)
  | succ f ih =>
    intro i a c h1 h2 hp
    exact hstep i a c hp (zl_2 b f) (zQ F) (fun o ho => ⟨o, rfl, ho⟩) (fun a1 c1 hi hp1 => ih (i + 1) a1 c1 hi (by omega) hp1)
theorem zQ_wh3 {A B C O : Type} (b : (A → B → C → Option O) → A → B → C → Option O) (M : Nat) (P : Nat → A → B → C → Prop) (F : O → Prop)
    (hstep : ∀ i a c d, P i a c d → ∀ (rec : A → B → C → Option O) (T : Option O → Prop), (∀ o, F o → T (some o)) → (∀ a1 c1 d1, i < M → P (i + 1) a1 c1 d1 → T (rec a1 c1 d1)) → T (b rec a c d)) :
    ∀ (f i : Nat) (a : A) (c : B) (d : C), i ≤ M → M - i < f → P i a c d → zQ F (zl_3 b f a c d) := by
  intro f
  induction f with
  | zero => intro i a c d h1 h2; exact absurd h2 (Nat.not_lt_zero _)
  | succ f ih =>
    intro i a c d h1 h2 hp
    exact hstep i a c d hp (zl_3 b f) (zQ F) (fun o ho => ⟨o, rfl, ho⟩) (fun a1 c1 d1 hi hp1 => ih (i + 1) a1 c1 d1 hi (by omega) hp1)
theorem zQ_wh4 {A B C D O : Type} (b : (A → B → C → D → Option O) → A → B → C → D → Option O) (M : Nat) (P : Nat → A → B → C → D → Prop) (F : O → Prop)
    (hstep : ∀ i a c d x, P i a c d x → ∀ (rec : A → B → C → D → Option O) (T : Option O → Prop), (∀ o, F o → T (some o)) → (∀ a1 c1 d1 x1, i < M → P (i + 1) a1 c1 d1 x1 → T (rec a1 c1 d1 x1)) → T (b rec a c d x)) :
    ∀ (f i : Nat) (a : A) (c : B) (d : C) (x : D), i ≤ M → M - i < f → P i a c d x → zQ F (zl_4 b f a c d x) := by
  intro f
  induction f with
  | zero => intro i a c d x h1 h2; exact absurd h2 (Nat.not_lt_zero _)
  | succ f ih =>
    intro i a c d x h1 h2 hp
    exact hstep i a c d x hp (zl_4 b f) (zQ F) (fun o ho => ⟨o, rfl, ho⟩) (fun a1 c1 d1 x1 hi hp1 => ih (i + 1) a1 c1 d1 x1 hi (by omega) hp1)
/-- an int accumulator over a counter -/
theorem zQ_sumI (b : (Int32 → Int32 → Option Int32) → Int32 → Int32 → Option Int32) (s N : Nat) (f : Nat → Int) (hsN : s ≤ N) (hN : N < 600)
    (hstep : ∀ i a, s ≤ i → i < N → a.toInt = zz_sum f (i - s) → ∀ (rec : Int32 → Int32 → Option Int32) (T : Option Int32 → Prop), (∀ v : Int32, v.toInt = zz_sum f (i - s) + f (i - s) → T (rec v (nI (i + 1)))) → T (b rec a (nI i)))
    (hend : ∀ a, ∀ (rec : Int32 → Int32 → Option Int32) (T : Option Int32 → Prop), T (some a) → T (b rec a (nI N))) (a0 : Int32) (h0 : a0.toInt = 0) :
    zQ (fun o => o.toInt = zz_sum f (N - s)) (zl_2 b 600 a0 (nI s)) := by
  refine zQ_for b N (fun i a => s ≤ i ∧ a.toInt = zz_sum f (i - s)) _ ?_ ?_ 600 s a0 hsN (by omega) ⟨Nat.le_refl _, by rw [Nat.sub_self]; exact h0⟩
  · intro i a hi h rec T hT
    exact hstep i a h.1 hi h.2 rec T (fun v hv => hT v ⟨by omega, by rw [hv, show i + 1 - s = (i - s) + 1 from by omega]; rfl⟩)
  · intro a h rec T hT
    exact hend a rec T (hT a h.2)
theorem zQ_sumL (b : (Int64 → Int32 → Option Int64) → Int64 → Int32 → Option Int64) (s N : Nat) (f : Nat → Int) (hsN : s ≤ N) (hN : N < 600)
    (hstep : ∀ i a, s ≤ i → i < N → a.toInt = zz_sum f (i - s) → ∀ (rec : Int64 → Int32 → Option Int64) (T : Option Int64 → Prop), (∀ v : Int64, v.toInt = zz_sum f (i - s) + f (i - s) → T (rec v (nI (i + 1)))) → T (b rec a (nI i)))
    (hend : ∀ a, ∀ (rec : Int64 → Int32 → Option Int64) (T : Option Int64 → Prop), T (some a) → T (b rec a (nI N))) (a0 : Int64) (h0 : a0.toInt = 0) :
    zQ (fun o => o.toInt = zz_sum f (N - s)) (zl_2 b 600 a0 (nI s)) := by
  refine zQ_for b N (fun i a => s ≤ i ∧ a.toInt = zz_sum f (i - s)) _ ?_ ?_ 600 s a0 hsN (by omega) ⟨Nat.le_refl _, by rw [Nat.sub_self]; exact h0⟩
  · intro i a hi h rec T hT
    exact hstep i a h.1 hi h.2 rec T (fun v hv => hT v ⟨by omega, by rw [hv, show i + 1 - s = (i - s) + 1 from by omega]; rfl⟩)
  · intro a h rec T hT
    exact hend a rec T (hT a h.2)
theorem zT_s0 {R : Type} {T : Option R → Prop} {x : Option (Unit ⊕ R)} {f : Option R} {P : Unit → Prop} {Q : R → Prop} (hx : zQ (Sum.elim P Q) x) (hr : ∀ r, Q r → T (some r)) (h : P () → T f) : T (zc_s0 x f) := by
  obtain ⟨r, e, hr1⟩ := hx
  rw [e]
  cases r with
  | inl a => exact h hr1
  | inr r => exact hr r hr1
theorem zT_s1 {A R : Type} {T : Option R → Prop} {x : Option (A ⊕ R)} {f : A → Option R} {P : A → Prop} {Q : R → Prop} (hx : zQ (Sum.elim P Q) x) (hr : ∀ r, Q r → T (some r)) (h : ∀ a, P a → T (f a)) : T (zc_s1 x f) := by
  obtain ⟨r, e, hr1⟩ := hx
  rw [e]
  cases r with
  | inl a => exact h a hr1
  | inr r => exact hr r hr1
theorem zT_s2 {A B R : Type} {T : Option R → Prop} {x : Option ((A × B) ⊕ R)} {f : A → B → Option R} {P : A × B → Prop} {Q : R → Prop} (hx : zQ (Sum.elim P Q) x) (hr : ∀ r, Q r → T (some r)) (h : ∀ a b, P (a, b) → T (f a b)) : T (zc_s2 x f) := by
  obtain ⟨r, e, hr1⟩ := hx
  rw [e]
  cases r with
  | inl a => exact h a.1 a.2 hr1
  | inr r => exact hr r hr1
/-- the last row is empty, the loop goes on with what stands -/
theorem zT_some {R : Type} {T : Option R → Prop} {P : R → Prop} (hT : ∀ r, P r → T (some r)) (r : R) (h : P r) : T (some r) := hT r h
