/-! states, what is kept, loops -/
theorem zs_i (S : zs_T) (k j : Nat) (v : Int32) (k1 j1 : Nat) : (zs_wi S k j v).1 k1 j1 = if k1 = k ∧ j1 = j then v else S.1 k1 j1 := by
  show (va_up S.1 k (upd (S.1 k) j v)) k1 j1 = _
  unfold va_up upd
  by_cases h : k1 = k
  · subst h; simp
  · simp [h]
theorem zs_l (S : zs_T) (k j : Nat) (v : Int64) (k1 j1 : Nat) : (zs_wl S k j v).2 k1 j1 = if k1 = k ∧ j1 = j then v else S.2 k1 j1 := by
  show (va_up S.2 k (vp_updL (S.2 k) j v)) k1 j1 = _
  unfold va_up vp_updL
  by_cases h : k1 = k
  · subst h; simp
  · simp [h]
theorem zs_i2 (S : zs_T) (k j : Nat) (v : Int32) : (zs_wi S k j v).2 = S.2 := rfl
theorem zs_l1 (S : zs_T) (k j : Nat) (v : Int64) : (zs_wl S k j v).1 = S.1 := rfl
theorem zs_ii (S : zs_T) (k j : Nat) (v : Int32) : (zs_wi S k j v).1 k j = v := by rw [zs_i, if_pos ⟨rfl, rfl⟩]
theorem zs_ll (S : zs_T) (k j : Nat) (v : Int64) : (zs_wl S k j v).2 k j = v := by rw [zs_l, if_pos ⟨rfl, rfl⟩]
theorem zs_in (S : zs_T) {k j : Nat} (v : Int32) {k1 j1 : Nat} (h : ¬ (k1 = k ∧ j1 = j)) : (zs_wi S k j v).1 k1 j1 = S.1 k1 j1 := by rw [zs_i, if_neg h]
theorem zs_ln (S : zs_T) {k j : Nat} (v : Int64) {k1 j1 : Nat} (h : ¬ (k1 = k ∧ j1 = j)) : (zs_wl S k j v).2 k1 j1 = S.2 k1 j1 := by rw [zs_l, if_neg h]
/-- S1 is S but for the ints that P names and the longs that Q names -/
def zF (P Q : Nat → Nat → Prop) (S S1 : zs_T) : Prop := (∀ k j, ¬ P k j → S1.1 k j = S.1 k j) ∧ (∀ k j, ¬ Q k j → S1.2 k j = S.2 k j)
theorem zF.rf {P Q : Nat → Nat → Prop} (S : zs_T) : zF P Q S S := ⟨fun _ _ _ => rfl, fun _ _ _ => rfl⟩
theorem zF.tr {P Q : Nat → Nat → Prop} {S S1 S2 : zs_T} (h : zF P Q S S1) (g : zF P Q S1 S2) : zF P Q S S2 := ⟨fun k j n => (g.1 k j n).trans (h.1 k j n), fun k j n => (g.2 k j n).trans (h.2 k j n)⟩
theorem zF.mo {P Q P1 Q1 : Nat → Nat → Prop} {S S1 : zs_T} (h : zF P Q S S1) (hp : ∀ k j, P k j → P1 k j) (hq : ∀ k j, Q k j → Q1 k j) : zF P1 Q1 S S1 := ⟨fun k j n => h.1 k j (fun z => n (hp k j z)), fun k j n => h.2 k j (fun z => n (hq k j z))⟩
theorem zF.wi {P Q : Nat → Nat → Prop} {S S1 : zs_T} (h : zF P Q S S1) {k j : Nat} (v : Int32) (hp : P k j) : zF P Q S (zs_wi S1 k j v) := ⟨fun k1 j1 n => by
  rw [zs_in]
  · exact h.1 k1 j1 n
  · intro c; obtain ⟨c1, c2⟩ := c; subst c1; subst c2; exact n hp, h.2⟩
theorem zF.wl {P Q : Nat → Nat → Prop} {S S1 : zs_T} (h : zF P Q S S1) {k j : Nat} (v : Int64) (hq : Q k j) : zF P Q S (zs_wl S1 k j v) := ⟨h.1, fun k1 j1 n => by
  rw [zs_ln]
  · exact h.2 k1 j1 n
  · intro c; obtain ⟨c1, c2⟩ := c; subst c1; subst c2; exact n hq⟩
abbrev zF_0 : Nat → Nat → Prop := fun _ _ => False
/-- a loop that counts up, with whatever it carries -/
theorem zp_for {A O : Type} (b : (A → Int32 → Option O) → A → Int32 → Option O) (N : Nat) (P : Nat → A → Prop) (out : A → O)
    (hstep : ∀ i a, i < N → P i a → ∃ a1, P (i + 1) a1 ∧ ∀ rec, b rec a (nI i) = rec a1 (nI (i + 1)))
    (hend : ∀ a, P N a → ∀ rec, b rec a (nI N) = some (out a)) :
    ∀ (f i : Nat) (a : A), i ≤ N → N - i < f → P i a → ∃ a1, P N a1 ∧ zl_2 b f a (nI i) = some (out a1) := by
  intro f
  induction f with
  | zero => intro i a h1 h2; exact absurd h2 (Nat.not_lt_zero _)
  | succ f ih =>
    intro i a h1 h2 hp
    by_cases c : i < N
    · obtain ⟨a1, hp1, e⟩ := hstep i a c hp
      obtain ⟨a2, hp2, e2⟩ := ih (i + 1) a1 c (by omega) hp1
      exact ⟨a2, hp2, (e _).trans e2⟩
    · have : i = N := by omega
      subst this
      exact ⟨a, hp, hend a hp _⟩
theorem zp_for3 {A B O : Type} (b : (A → B → Int32 → Option O) → A → B → Int32 → Option O) (N : Nat) (P : Nat → A → B → Prop) (out : A → B → O)
    (hstep : ∀ i a c, i < N → P i a c → ∃ a1 c1, P (i + 1) a1 c1 ∧ ∀ rec, b rec a c (nI i) = rec a1 c1 (nI (i + 1)))
    (hend : ∀ a c, P N a c → ∀ rec, b rec a c (nI N) = some (out a c)) :
    ∀ (f i : Nat) (a : A) (c : B), i ≤ N → N - i < f → P i a c → ∃ a1 c1, P N a1 c1 ∧ zl_3 b f a c (nI i) = some (out a1 c1) := by
  intro f
  induction f with
  | zero => intro i a c h1 h2; exact absurd h2 (Nat.not_lt_zero _)
  | succ f ih =>
    intro i a d h1 h2 hp
    by_cases c : i < N
    · obtain ⟨a1, c1, hp1, e⟩ := hstep i a d c hp
      obtain ⟨a2, c2, hp2, e2⟩ := ih (i + 1) a1 c1 c (by omega) hp1
      exact ⟨a2, c2, hp2, (e _).trans e2⟩
    · have : i = N := by omega
      subst this
      exact ⟨a, d, hp, hend a d hp _⟩
theorem zp_for4 {A B C O : Type} (b : (A → B → C → Int32 → Option O) → A → B → C → Int32 → Option O) (N : Nat) (P : Nat → A → B → C → Prop) (out : A → B → C → O)
    (hstep : ∀ i a c d, i < N → P i a c d → ∃ a1 c1 d1, P (i + 1) a1 c1 d1 ∧ ∀ rec, b rec a c d (nI i) = rec a1 c1 d1 (nI (i + 1)))
    (hend : ∀ a c d, P N a c d → ∀ rec, b rec a c d (nI N) = some (out a c d)) :
    ∀ (f i : Nat) (a : A) (c : B) (d : C), i ≤ N → N - i < f → P i a c d → ∃ a1 c1 d1, P N a1 c1 d1 ∧ zl_4 b f a c d (nI i) = some (out a1 c1 d1) := by
  intro f
  induction f with
  | zero => intro i a c d h1 h2; exact absurd h2 (Nat.not_lt_zero _)
  | succ f ih =>
    intro i a d x h1 h2 hp
    by_cases c : i < N
    · obtain ⟨a1, c1, d1, hp1, e⟩ := hstep i a d x c hp
      obtain ⟨a2, c2, d2, hp2, e2⟩ := ih (i + 1) a1 c1 d1 c (by omega) hp1
      exact ⟨a2, c2, d2, hp2, (e _).trans e2⟩
    · have : i = N := by omega
      subst this
      exact ⟨a, d, x, hp, hend a d x hp _⟩
/-- a loop that writes one int row, one cell a turn -/
theorem zp_mapI (b : (zs_T → Int32 → Option zs_T) → zs_T → Int32 → Option zs_T) (N k : Nat) (p : Nat → Nat) (F : Nat → Int) (S : zs_T) (hp : ∀ s t, s < N → t < N → p s = p t → s = t)
    (hstep : ∀ i S1, i < N → zF (fun k1 j => k1 = k ∧ ∃ t, t < i ∧ j = p t) zF_0 S S1 → (∀ t, t < i → (S1.1 k (p t)).toInt = F t) → ∃ v : Int32, v.toInt = F i ∧ ∀ rec, b rec S1 (nI i) = rec (zs_wi S1 k (p i) v) (nI (i + 1)))
    (hend : ∀ S1, zF (fun k1 j => k1 = k ∧ ∃ t, t < N ∧ j = p t) zF_0 S S1 → ∀ rec, b rec S1 (nI N) = some S1) (hN : N < 600) :
    ∃ S1, zl_2 b 600 S (nI 0) = some S1 ∧ zF (fun k1 j => k1 = k ∧ ∃ t, t < N ∧ j = p t) zF_0 S S1 ∧ ∀ t, t < N → (S1.1 k (p t)).toInt = F t := by
  obtain ⟨S1, ⟨h1, h2⟩, e⟩ := zp_for b N (fun i S1 => zF (fun k1 j => k1 = k ∧ ∃ t, t < i ∧ j = p t) zF_0 S S1 ∧ ∀ t, t < i → (S1.1 k (p t)).toInt = F t) id
    (fun i a hi h => by
      obtain ⟨v, hv, e⟩ := hstep i a hi h.1 h.2
      refine ⟨_, ⟨(h.1.mo (fun k1 j hk => ⟨hk.1, hk.2.choose, Nat.lt_succ_of_lt hk.2.choose_spec.1, hk.2.choose_spec.2⟩) (fun _ _ h => h)).wi v ⟨rfl, i, Nat.lt_succ_self i, rfl⟩, fun t ht => ?_⟩, e⟩
      by_cases c : t = i
      · subst c; rw [zs_ii]; exact hv
      · rw [zs_in]
        · exact h.2 t (by omega)
        · intro z; exact c (hp t i (by omega) hi z.2))
    (fun a h rec => hend a h.1 rec) 600 0 S (Nat.zero_le _) (by omega) ⟨zF.rf S, fun t ht => absurd ht (Nat.not_lt_zero t)⟩
  exact ⟨S1, e, h1, h2⟩
/-- .. one long row -/
theorem zp_mapL (b : (zs_T → Int32 → Option zs_T) → zs_T → Int32 → Option zs_T) (N k : Nat) (p : Nat → Nat) (F : Nat → Int) (S : zs_T) (hp : ∀ s t, s < N → t < N → p s = p t → s = t)
    (hstep : ∀ i S1, i < N → zF zF_0 (fun k1 j => k1 = k ∧ ∃ t, t < i ∧ j = p t) S S1 → (∀ t, t < i → (S1.2 k (p t)).toInt = F t) → ∃ v : Int64, v.toInt = F i ∧ ∀ rec, b rec S1 (nI i) = rec (zs_wl S1 k (p i) v) (nI (i + 1)))
    (hend : ∀ S1, zF zF_0 (fun k1 j => k1 = k ∧ ∃ t, t < N ∧ j = p t) S S1 → ∀ rec, b rec S1 (nI N) = some S1) (hN : N < 600) :
    ∃ S1, zl_2 b 600 S (nI 0) = some S1 ∧ zF zF_0 (fun k1 j => k1 = k ∧ ∃ t, t < N ∧ j = p t) S S1 ∧ ∀ t, t < N → (S1.2 k (p t)).toInt = F t := by
  obtain ⟨S1, ⟨h1, h2⟩, e⟩ := zp_for b N (fun i S1 => zF zF_0 (fun k1 j => k1 = k ∧ ∃ t, t < i ∧ j = p t) S S1 ∧ ∀ t, t < i → (S1.2 k (p t)).toInt = F t) id
    (fun i a hi h => by
      obtain ⟨v, hv, e⟩ := hstep i a hi h.1 h.2
      refine ⟨_, ⟨(h.1.mo (fun _ _ h => h) (fun k1 j hk => ⟨hk.1, hk.2.choose, Nat.lt_succ_of_lt hk.2.choose_spec.1, hk.2.choose_spec.2⟩)).wl v ⟨rfl, i, Nat.lt_succ_self i, rfl⟩, fun t ht => ?_⟩, e⟩
      by_cases c : t = i
      · subst c; rw [zs_ll]; exact hv
      · rw [zs_ln]
        · exact h.2 t (by omega)
        · intro z; exact c (hp t i (by omega) hi z.2))
    (fun a h rec => hend a h.1 rec) 600 0 S (Nat.zero_le _) (by omega) ⟨zF.rf S, fun t ht => absurd ht (Nat.not_lt_zero t)⟩
  exact ⟨S1, e, h1, h2⟩
/-- sums -/
def zz_sum (f : Nat → Int) : Nat → Int
  | 0 => 0
  | n + 1 => zz_sum f n + f n
theorem zz_sum_b {f : Nat → Int} {B : Int} : ∀ n : Nat, (∀ t, t < n → -B ≤ f t ∧ f t ≤ B) → -(B * n) ≤ zz_sum f n ∧ zz_sum f n ≤ B * n := by
  intro n
  induction n with
  | zero => intro _; simp [zz_sum]
  | succ n ih =>
    intro h
    have h1 := ih (fun t ht => h t (by omega))
    have h2 := h n (by omega)
    have e : B * ((n + 1 : Nat) : Int) = B * n + B := by rw [Int.natCast_succ, Int.mul_add, Int.mul_one]
    rw [e]
    simp only [zz_sum]
    omega
theorem zz_sum_c {f g : Nat → Int} : ∀ n : Nat, (∀ t, t < n → f t = g t) → zz_sum f n = zz_sum g n := by
  intro n
  induction n with
  | zero => intro _; rfl
  | succ n ih => intro h; simp only [zz_sum]; rw [ih (fun t ht => h t (by omega)), h n (by omega)]
/-- the greatest of some sizes -/
def zz_max (f : Nat → Int) : Nat → Int
  | 0 => 0
  | n + 1 => if zz_max f n < f n then f n else zz_max f n
theorem zz_max_ge (f : Nat → Int) : ∀ n t : Nat, t < n → f t ≤ zz_max f n := by
  intro n
  induction n with
  | zero => intro t h; exact absurd h (Nat.not_lt_zero t)
  | succ n ih =>
    intro t h
    simp only [zz_max]
    by_cases c : t = n
    · subst c; split <;> omega
    · have := ih t (by omega)
      split <;> omega
theorem zz_max_b {f : Nat → Int} {B : Int} (hB : 0 ≤ B) : ∀ n : Nat, (∀ t, t < n → f t ≤ B) → 0 ≤ zz_max f n ∧ zz_max f n ≤ B := by
  intro n
  induction n with
  | zero => intro _; simp only [zz_max]; omega
  | succ n ih =>
    intro h
    have h1 := ih (fun t ht => h t (by omega))
    have h2 := h n (by omega)
    simp only [zz_max]
    split <;> omega
theorem zz_max_c {f g : Nat → Int} : ∀ n : Nat, (∀ t, t < n → f t = g t) → zz_max f n = zz_max g n := by
  intro n
  induction n with
  | zero => intro _; rfl
  | succ n ih => intro h; simp only [zz_max]; rw [ih (fun t ht => h t (by omega)), h n (by omega)]
/-- the counter -/
theorem zc_1 (i : Nat) : nI i + (1 : Int32) = nI (i + 1) := nI_1 i
theorem zc_p {i : Nat} (h : i < 2147483648) : (nI i).toNatClampNeg = i := nI_clamp h
