/-! what holds between the calls -/
def zI1 (S : zs_T) : Prop := ∃ n, n ≤ 160 ∧ S.1 0 6 = nI n ∧ S.1 40 1 = nI n ∧ ∀ t, t < n → (S.2 41 t).toInt = (S.1 1 t).toInt ∧ -32768 ≤ (S.1 1 t).toInt ∧ (S.1 1 t).toInt ≤ 32767
def zI2 (S : zs_T) : Prop := ∃ n, n ≤ 33 ∧ S.1 0 7 = nI n ∧ S.1 40 3 = nI n ∧ ∀ t, t < n → S.1 42 t = S.1 2 t
def zI3 (S : zs_T) : Prop := ∀ j, j < 76 → S.1 43 j = S.1 3 j
def zI4 (S : zs_T) : Prop := ∀ j, j < 160 → S.1 44 j = S.1 4 j
def zI5 (S : zs_T) : Prop := S.1 40 7 = S.1 5 9 ∧ ((S.2 40 9).toInt = (S.1 8 0).toInt ∧ -16384 ≤ (S.1 8 0).toInt ∧ (S.1 8 0).toInt ≤ 16384) ∧ (S.2 40 10).toInt = (S.1 8 1).toInt ∧ ((S.2 40 11).toInt = (S.1 8 2).toInt ∧ -32768 ≤ (S.1 8 2).toInt ∧ (S.1 8 2).toInt ≤ 32767) ∧ (∀ j, j < 8 → (S.2 45 j).toInt = (S.1 16 j).toInt ∧ -32768 ≤ (S.1 16 j).toInt ∧ (S.1 16 j).toInt ≤ 32767) ∧ (∀ j, j < 8 → (S.2 46 (j + 1)).toInt = (S.1 7 j).toInt ∧ -32768 ≤ (S.1 7 j).toInt ∧ (S.1 7 j).toInt ≤ 32767) ∧ (∀ t, t < 120 → (S.2 48 t).toInt = (S.1 20 t).toInt ∧ -32768 ≤ (S.1 20 t).toInt ∧ (S.1 20 t).toInt ≤ 32767) ∧ (∀ m, m < 50 → (m < 5 ∨ 45 ≤ m) → (S.1 25 m).toInt = 0)
def zI6 (S : zs_T) : Prop := S.1 40 8 = S.1 29 6 ∧ (∃ b : Nat, (40 ≤ b ∧ b ≤ 120) ∧ (S.1 29 4).toInt = (b : Int) ∧ (S.1 40 16).toInt = (b : Int)) ∧ ((S.2 40 17).toInt = (S.1 29 5).toInt ∧ -32768 ≤ (S.1 29 5).toInt ∧ (S.1 29 5).toInt ≤ 32767) ∧ (∀ j, j < 8 → (S.2 45 (8 + j)).toInt = (S.1 32 j).toInt ∧ -32768 ≤ (S.1 32 j).toInt ∧ (S.1 32 j).toInt ≤ 32767) ∧ (∀ j, j < 8 → (S.2 47 j).toInt = (S.1 30 j).toInt ∧ -32768 ≤ (S.1 30 j).toInt ∧ (S.1 30 j).toInt ≤ 32767) ∧ (∀ t, t < 120 → (S.2 48 (280 + t)).toInt = (S.1 36 t).toInt ∧ -32768 ≤ (S.1 36 t).toInt ∧ (S.1 36 t).toInt ≤ 32767)
def zI (S : zs_T) : Prop := zI1 S ∧ zI2 S ∧ zI3 S ∧ zI4 S ∧ zI5 S ∧ zI6 S
section FR
variable {P Q : Nat → Nat → Prop} {S S1 : zs_T}
theorem zI1.fr (h : zI1 S) (f : zF P Q S S1) (hP : ∀ k j, P k j → ¬ (k = 1 ∨ (k = 0 ∧ j = 6) ∨ (k = 40 ∧ j = 1))) (hQ : ∀ k j, Q k j → ¬ k = 41) : zI1 S1 := by
  have e1 : ∀ k j, (k = 1 ∨ (k = 0 ∧ j = 6) ∨ (k = 40 ∧ j = 1)) → S1.1 k j = S.1 k j := fun k j z => f.1 k j (fun y => hP k j y z)
  have e2 : ∀ k j, k = 41 → S1.2 k j = S.2 k j := fun k j z => f.2 k j (fun y => hQ k j y z)
  obtain ⟨n, h1, h2, h3, h4⟩ := h
  exact ⟨n, h1, by rw [e1 _ _ (by omega)]; exact h2, by rw [e1 _ _ (by omega)]; exact h3, fun t ht => by rw [e2 _ _ rfl, e1 1 t (by omega)]; exact h4 t ht⟩
theorem zI2.fr (h : zI2 S) (f : zF P Q S S1) (hP : ∀ k j, P k j → ¬ (k = 2 ∨ k = 42 ∨ (k = 0 ∧ j = 7) ∨ (k = 40 ∧ j = 3))) : zI2 S1 := by
  have e1 : ∀ k j, (k = 2 ∨ k = 42 ∨ (k = 0 ∧ j = 7) ∨ (k = 40 ∧ j = 3)) → S1.1 k j = S.1 k j := fun k j z => f.1 k j (fun y => hP k j y z)
  obtain ⟨n, h1, h2, h3, h4⟩ := h
  exact ⟨n, h1, by rw [e1 _ _ (by omega)]; exact h2, by rw [e1 _ _ (by omega)]; exact h3, fun t ht => by rw [e1 42 t (by omega), e1 2 t (by omega)]; exact h4 t ht⟩
theorem zI3.fr (h : zI3 S) (f : zF P Q S S1) (hP : ∀ k j, P k j → ¬ (k = 3 ∨ k = 43)) : zI3 S1 := by
  intro j hj
  rw [f.1 43 j (fun y => hP _ _ y (by omega)), f.1 3 j (fun y => hP _ _ y (by omega))]; exact h j hj
theorem zI4.fr (h : zI4 S) (f : zF P Q S S1) (hP : ∀ k j, P k j → ¬ (k = 4 ∨ k = 44)) : zI4 S1 := by
  intro j hj
  rw [f.1 44 j (fun y => hP _ _ y (by omega)), f.1 4 j (fun y => hP _ _ y (by omega))]; exact h j hj
theorem zI5.fr (h : zI5 S) (f : zF P Q S S1) (hP : ∀ k j, P k j → ¬ ((k = 40 ∧ j = 7) ∨ (k = 5 ∧ j = 9) ∨ k = 8 ∨ k = 16 ∨ k = 7 ∨ k = 20 ∨ k = 25)) (hQ : ∀ k j, Q k j → ¬ ((k = 40 ∧ (j = 9 ∨ j = 10 ∨ j = 11)) ∨ (k = 45 ∧ j < 8) ∨ k = 46 ∨ (k = 48 ∧ j < 120))) : zI5 S1 := by
  have e1 : ∀ k j, ((k = 40 ∧ j = 7) ∨ (k = 5 ∧ j = 9) ∨ k = 8 ∨ k = 16 ∨ k = 7 ∨ k = 20 ∨ k = 25) → S1.1 k j = S.1 k j := fun k j z => f.1 k j (fun y => hP k j y z)
  have e2 : ∀ k j, ((k = 40 ∧ (j = 9 ∨ j = 10 ∨ j = 11)) ∨ (k = 45 ∧ j < 8) ∨ k = 46 ∨ (k = 48 ∧ j < 120)) → S1.2 k j = S.2 k j := fun k j z => f.2 k j (fun y => hQ k j y z)
  obtain ⟨h1, h2, h3, h4, h5, h6, h7, h8⟩ := h
  refine ⟨?_, ?_, ?_, ?_, fun j hj => ?_, fun j hj => ?_, fun t ht => ?_, fun m hm hm2 => ?_⟩
  · rw [e1 40 7 (by omega), e1 5 9 (by omega)]; exact h1
  · rw [e1 8 0 (by omega), e2 40 9 (by omega)]; exact h2
  · rw [e1 8 1 (by omega), e2 40 10 (by omega)]; exact h3
  · rw [e1 8 2 (by omega), e2 40 11 (by omega)]; exact h4
  · rw [e1 16 j (by omega), e2 45 j (by omega)]; exact h5 j hj
  · rw [e1 7 j (by omega), e2 46 _ (by omega)]; exact h6 j hj
  · rw [e1 20 t (by omega), e2 48 t (by omega)]; exact h7 t ht
  · rw [e1 25 m (by omega)]; exact h8 m hm hm2
theorem zI6.fr (h : zI6 S) (f : zF P Q S S1) (hP : ∀ k j, P k j → ¬ ((k = 40 ∧ (j = 8 ∨ j = 16)) ∨ (k = 29 ∧ (j = 4 ∨ j = 5 ∨ j = 6)) ∨ k = 32 ∨ k = 30 ∨ k = 36)) (hQ : ∀ k j, Q k j → ¬ ((k = 40 ∧ j = 17) ∨ (k = 45 ∧ 8 ≤ j) ∨ k = 47 ∨ (k = 48 ∧ 280 ≤ j ∧ j < 400))) : zI6 S1 := by
  have e1 : ∀ k j, ((k = 40 ∧ (j = 8 ∨ j = 16)) ∨ (k = 29 ∧ (j = 4 ∨ j = 5 ∨ j = 6)) ∨ k = 32 ∨ k = 30 ∨ k = 36) → S1.1 k j = S.1 k j := fun k j z => f.1 k j (fun y => hP k j y z)
  have e2 : ∀ k j, ((k = 40 ∧ j = 17) ∨ (k = 45 ∧ 8 ≤ j) ∨ k = 47 ∨ (k = 48 ∧ 280 ≤ j ∧ j < 400)) → S1.2 k j = S.2 k j := fun k j z => f.2 k j (fun y => hQ k j y z)
  obtain ⟨h1, ⟨b, h2, h3, h4⟩, h5, h6, h7, h8⟩ := h
  refine ⟨?_, ⟨b, h2, ?_, ?_⟩, ?_, fun j hj => ?_, fun j hj => ?_, fun t ht => ?_⟩
  · rw [e1 40 8 (by omega), e1 29 6 (by omega)]; exact h1
  · rw [e1 29 4 (by omega)]; exact h3
  · rw [e1 40 16 (by omega)]; exact h4
  · rw [e1 29 5 (by omega), e2 40 17 (by omega)]; exact h5
  · rw [e1 32 j (by omega), e2 45 _ (by omega)]; exact h6 j hj
  · rw [e1 30 j (by omega), e2 47 _ (by omega)]; exact h7 j hj
  · rw [e1 36 t (by omega), e2 48 _ (by omega)]; exact h8 t ht
/-- the code and the law's own long -/
theorem zI.fr (h : zI S) (f : zF (fun k j => k = 40 ∧ j = 0) (fun k _ => k = 59) S S1) : zI S1 :=
  ⟨h.1.fr f (fun k j z => by omega) (fun k j z => by omega), h.2.1.fr f (fun k j z => by omega), h.2.2.1.fr f (fun k j z => by omega), h.2.2.2.1.fr f (fun k j z => by omega), h.2.2.2.2.1.fr f (fun k j z => by omega) (fun k j z => by omega), h.2.2.2.2.2.fr f (fun k j z => by omega) (fun k j z => by omega)⟩
end FR
theorem zI_0 : zI zs_0 := by
  have z32 : (0 : Int32).toInt = 0 := by decide
  have z64 : (0 : Int64).toInt = 0 := by decide
  refine ⟨⟨0, by omega, rfl, rfl, fun t ht => absurd ht (Nat.not_lt_zero t)⟩, ⟨0, by omega, rfl, rfl, fun t ht => absurd ht (Nat.not_lt_zero t)⟩, fun j _ => rfl, fun j _ => rfl, ⟨rfl, ?_, ?_, ?_, fun j _ => ?_, fun j _ => ?_, fun j _ => ?_, fun m _ _ => ?_⟩, ⟨rfl, ⟨40, by omega, ?_, ?_⟩, ?_, fun j _ => ?_, fun j _ => ?_, fun j _ => ?_⟩⟩
  · show (0 : Int64).toInt = (0 : Int32).toInt ∧ -16384 ≤ (0 : Int32).toInt ∧ (0 : Int32).toInt ≤ 16384; decide
  · show (0 : Int64).toInt = (0 : Int32).toInt; decide
  · show (0 : Int64).toInt = (0 : Int32).toInt ∧ -32768 ≤ (0 : Int32).toInt ∧ (0 : Int32).toInt ≤ 32767; decide
  · show (0 : Int64).toInt = (0 : Int32).toInt ∧ -32768 ≤ (0 : Int32).toInt ∧ (0 : Int32).toInt ≤ 32767; decide
  · show (0 : Int64).toInt = (0 : Int32).toInt ∧ -32768 ≤ (0 : Int32).toInt ∧ (0 : Int32).toInt ≤ 32767; decide
  · show (0 : Int64).toInt = (0 : Int32).toInt ∧ -32768 ≤ (0 : Int32).toInt ∧ (0 : Int32).toInt ≤ 32767; decide
  · show (0 : Int32).toInt = 0; decide
  · show (40 : Int32).toInt = ((40 : Nat) : Int); decide
  · show (40 : Int32).toInt = ((40 : Nat) : Int); decide
  · show (0 : Int64).toInt = (0 : Int32).toInt ∧ -32768 ≤ (0 : Int32).toInt ∧ (0 : Int32).toInt ≤ 32767; decide
  · show (0 : Int64).toInt = (0 : Int32).toInt ∧ -32768 ≤ (0 : Int32).toInt ∧ (0 : Int32).toInt ≤ 32767; decide
  · show (0 : Int64).toInt = (0 : Int32).toInt ∧ -32768 ≤ (0 : Int32).toInt ∧ (0 : Int32).toInt ≤ 32767; decide
  · show (0 : Int64).toInt = (0 : Int32).toInt ∧ -32768 ≤ (0 : Int32).toInt ∧ (0 : Int32).toInt ≤ 32767; decide
/-! the calls: the class's, then the reference's -/
def zR (k : Int32) (o : Int32 × zs_T) : Prop := o.2.1 40 0 = k ∧ (k = 0 → o.2.2 59 0 = Int32.toInt64 o.1) ∧ zI o.2
def zO (rf : zs_T → Option (Int32 × zs_T)) (c : Int32 × Int32 × zs_T) : Prop := (c.1 = 0 ∨ c.1 = 1 ∨ c.1 = 2) ∧ zQ (zR c.1) (rf (zx_o c.1 c.2.1 c.2.2))
def zO1 (rf : zs_T → Option (Int32 × zs_T)) (c : Int32 × Int32 × zs_T) : Prop := (c.1 = 0 ∨ c.1 = 1) ∧ zQ (zR c.1) (rf (zx_o c.1 c.2.1 c.2.2))
theorem zx_0 (r : Int32) (S : zs_T) : zx_o 0 r S = zs_wl S 59 0 (Int32.toInt64 r) := if_pos rfl
theorem zx_1 (r : Int32) (S : zs_T) : zx_o 1 r S = S := if_neg (by decide)
theorem zx_2 (r : Int32) (S : zs_T) : zx_o 2 r S = S := if_neg (by decide)
theorem zr_0 (S : zs_T) : zQ (fun o => o.1 = (0 : Int32) ∧ o.2 = zs_wi S 40 0 (0 : Int32)) (zf_X11_refuses S (0 : Int32)) := ⟨_, rfl, rfl, rfl⟩
theorem zr_1 (S : zs_T) : zQ (fun o => o.1 = (1 : Int32) ∧ o.2 = zs_wi S 40 0 (1 : Int32)) (zf_X11_refuses S (1 : Int32)) := ⟨_, rfl, rfl, rfl⟩
theorem zr_2 (S : zs_T) : zQ (fun o => o.1 = (1 : Int32) ∧ o.2 = zs_wi S 40 0 (2 : Int32)) (zf_X11_refuses S (2 : Int32)) := ⟨_, rfl, rfl, rfl⟩
/-- refused: the state keeps -/
theorem zR_no {k : Int32} (hk : ¬ k = 0) {S : zs_T} (h : zI S) (r : Int32) : zR k (r, zs_wi S 40 0 k) :=
  ⟨zs_ii _ _ _ _, fun z => absurd z hk, h.fr ((zF.rf S).wi _ ⟨rfl, rfl⟩)⟩
/-- the two states with the answer noted and no refusal -/
def zS5 (S : zs_T) (r : Int32) : zs_T := zs_wi (zs_wl S 59 0 (Int32.toInt64 r)) 40 0 (0 : Int32)
theorem zS5_f (S : zs_T) (r : Int32) : zF (fun k j => k = 40 ∧ j = 0) (fun k _ => k = 59) S (zS5 S r) := by
  unfold zS5
  refine zF.wi ?_ _ ⟨rfl, rfl⟩
  exact zF.wl (zF.rf S) _ rfl
theorem zS5_r (S : zs_T) (r : Int32) : (zS5 S r).2 59 0 = Int32.toInt64 r := zs_ll S 59 0 (Int32.toInt64 r)
theorem zS5_0 (S : zs_T) (r : Int32) : (zS5 S r).1 40 0 = (0 : Int32) := zs_ii (zs_wl S 59 0 (Int32.toInt64 r)) 40 0 (0 : Int32)
/-- a call that reads: the class's answer r, the reference's the same -/
theorem zR_rd {S : zs_T} (h : zI S) {r v : Int32} (e : v = r) : zR 0 (v, zS5 S r) := ⟨zS5_0 S r, fun _ => by rw [e]; exact zS5_r S r, h.fr (zS5_f S r)⟩
theorem zp_parameter (S : zs_T) (h : zI S) (a1 : Int32) : zQ (zO1 (fun S => zf_X11_parameter S a1)) (zf_X10_parameter S a1) := by
  have e0 : (0 : Int32).toInt = 0 := by decide
  have e76 : (76 : Int32).toInt = 76 := by decide
  have e75 : (75 : Int32).toInt = 75 := by decide
  have no : zQ (zR 1) (zj_X11_parameter_11 S a1) := by
    refine zQ.of (fun T hT => ?_)
    unfold zj_X11_parameter_11 zj_X11_parameter_16
    refine zT_b2 (zr_1 S) (fun v1 S2 h2 => ?_)
    dsimp only at h2
    obtain ⟨q1, q2⟩ := h2
    subst q1; subst q2
    exact zT_iff (by decide) (hT _ (zR_no (by decide) h 0))
  refine zQ.of (fun T hT => ?_)
  unfold zf_X10_parameter
  refine zT_if (fun c => hT _ ⟨Or.inr rfl, ?_⟩) (fun c => zT_if (fun c1 => ?_) (fun c1 => hT _ ⟨Or.inr rfl, ?_⟩))
  · show zQ (zR 1) (zf_X11_parameter (zx_o 1 0 S) a1)
    rw [zx_1]; unfold zf_X11_parameter; rw [if_pos c]; exact no
  · rw [za_lt, e0] at c
    rw [za_lt, e76] at c1
    have ea : a1.toInt = ((a1.toInt.toNat : Nat) : Int) := by omega
    refine zT_gi ea (by omega) ?_
    rw [za_pos ea]
    refine hT _ ⟨Or.inl rfl, ?_⟩
    show zQ (zR 0) (zf_X11_parameter (zx_o 0 (S.1 3 a1.toInt.toNat) S) a1)
    rw [zx_0]; unfold zf_X11_parameter
    rw [if_neg (by rw [za_lt, e0]; exact c), if_pos (by rw [za_le, e75]; omega)]
    refine zQ.of (fun T hT => ?_)
    unfold zj_X11_parameter_16
    refine zT_b2 (zr_0 _) (fun v1 S2 h2 => ?_)
    dsimp only at h2
    obtain ⟨q1, q2⟩ := h2
    subst q1
    refine zT_ift rfl (zT_gi ea (by omega) ?_)
    rw [za_pos ea, q2]
    refine hT _ (zR_rd h ?_)
    show (zS5 S _).1 43 _ = _
    rw [(zS5_f S _).1 43 _ (by omega)]; exact h.2.2.1 _ (by omega)
  · rw [za_lt, e76] at c1
    show zQ (zR 1) (zf_X11_parameter (zx_o 1 0 S) a1)
    rw [zx_1]; unfold zf_X11_parameter; rw [if_neg c, if_neg (by rw [za_le, e75]; omega)]; exact no
theorem zp_sample (S : zs_T) (h : zI S) (a1 : Int32) : zQ (zO1 (fun S => zf_X11_sample S a1)) (zf_X10_sample S a1) := by
  have e0 : (0 : Int32).toInt = 0 := by decide
  have e76 : (160 : Int32).toInt = 160 := by decide
  have e75 : (159 : Int32).toInt = 159 := by decide
  have no : zQ (zR 1) (zj_X11_sample_12 S a1) := by
    refine zQ.of (fun T hT => ?_)
    unfold zj_X11_sample_12 zj_X11_sample_17
    refine zT_b2 (zr_1 S) (fun v1 S2 h2 => ?_)
    dsimp only at h2
    obtain ⟨q1, q2⟩ := h2
    subst q1; subst q2
    exact zT_iff (by decide) (hT _ (zR_no (by decide) h 0))
  refine zQ.of (fun T hT => ?_)
  unfold zf_X10_sample
  refine zT_if (fun c => hT _ ⟨Or.inr rfl, ?_⟩) (fun c => zT_if (fun c1 => ?_) (fun c1 => hT _ ⟨Or.inr rfl, ?_⟩))
  · show zQ (zR 1) (zf_X11_sample (zx_o 1 0 S) a1)
    rw [zx_1]; unfold zf_X11_sample; rw [if_pos c]; exact no
  · rw [za_lt, e0] at c
    rw [za_lt, e76] at c1
    have ea : a1.toInt = ((a1.toInt.toNat : Nat) : Int) := by omega
    refine zT_gi ea (by omega) ?_
    rw [za_pos ea]
    refine hT _ ⟨Or.inl rfl, ?_⟩
    show zQ (zR 0) (zf_X11_sample (zx_o 0 (S.1 4 a1.toInt.toNat) S) a1)
    rw [zx_0]; unfold zf_X11_sample
    rw [if_neg (by rw [za_lt, e0]; exact c), if_pos (by rw [za_le, e75]; omega)]
    refine zQ.of (fun T hT => ?_)
    unfold zj_X11_sample_17
    refine zT_b2 (zr_0 _) (fun v1 S2 h2 => ?_)
    dsimp only at h2
    obtain ⟨q1, q2⟩ := h2
    subst q1
    refine zT_ift rfl (zT_gi ea (by omega) ?_)
    rw [za_pos ea, q2]
    refine hT _ (zR_rd h ?_)
    show (zS5 S _).1 44 _ = _
    rw [(zS5_f S _).1 44 _ (by omega)]; exact h.2.2.2.1 _ (by omega)
  · rw [za_lt, e76] at c1
    show zQ (zR 1) (zf_X11_sample (zx_o 1 0 S) a1)
    rw [zx_1]; unfold zf_X11_sample; rw [if_neg c, if_neg (by rw [za_le, e75]; omega)]; exact no
theorem zp_about (S : zs_T) (h : zI S) (a1 : Int32) : zQ (zO1 (fun S => zf_X11_about S a1)) (zf_X10_about S a1) := by
  obtain ⟨⟨n1, hn1, s1, s2, -⟩, ⟨n2, hn2, t1, t2, -⟩, -, -, h5, h6⟩ := id h
  have e0 : (0 : Int32).toInt = 0 := by decide
  have no : (a1.toInt < 0 ∨ 3 < a1.toInt) → zQ (zR 1) (zf_X11_about S a1) := by
    intro hc
    have k : zQ (zR 1) (zj_X11_about_10 S a1) := by
      refine zQ.of (fun T hT => ?_)
      unfold zj_X11_about_10 zj_X11_about_15
      refine zT_b2 (zr_1 S) (fun v1 S2 h2 => ?_)
      dsimp only at h2
      obtain ⟨q1, q2⟩ := h2
      subst q1; subst q2
      exact zT_iff (by decide) (hT _ (zR_no (by decide) h 0))
    unfold zf_X11_about
    by_cases c : a1.toInt < 0
    · rw [if_pos (by rw [za_lt, e0]; exact c)]; exact k
    · rw [if_neg (by rw [za_lt, e0]; exact c), if_neg (by rw [za_le, show (3 : Int32).toInt = 3 by decide]; omega)]; exact k
  have yes : ∀ r : Int32, (0 ≤ a1.toInt ∧ a1.toInt ≤ 3) → (∀ S2, S2 = zS5 S r → ∀ T : Option (Int32 × zs_T) → Prop, (∀ v, v = r → T (some (v, S2))) → T (if a1 = 0 then some ((S2.1 40 1), S2) else (if a1 = (1 : Int32) then some ((S2.1 40 3), S2) else (if a1 = (2 : Int32) then some ((S2.1 40 7), S2) else some ((S2.1 40 8), S2))))) → zQ (zR 0) (zf_X11_about (zx_o 0 r S) a1) := by
    intro r hc hk
    rw [zx_0]; unfold zf_X11_about
    rw [if_neg (by rw [za_lt, e0]; omega), if_pos (by rw [za_le, show (3 : Int32).toInt = 3 by decide]; omega)]
    refine zQ.of (fun T hT => ?_)
    unfold zj_X11_about_15
    refine zT_b2 (zr_0 _) (fun v1 S2 h2 => ?_)
    dsimp only at h2
    obtain ⟨q1, q2⟩ := h2
    subst q1
    refine zT_ift rfl (hk S2 q2 T (fun v e => hT _ ?_))
    rw [q2]; exact zR_rd h e
  have fr : ∀ r j, ¬ j = 0 → (zS5 S r).1 40 j = S.1 40 j := fun r j hj => (zS5_f S r).1 40 j (by omega)
  refine zQ.of (fun T hT => ?_)
  unfold zf_X10_about
  refine zT_if (fun c => hT _ ⟨Or.inl rfl, yes _ (by rw [c, e0]; omega) (fun S2 q2 T hT => ?_)⟩) (fun c => zT_if (fun c1 => hT _ ⟨Or.inl rfl, yes _ (by rw [c1, show (1 : Int32).toInt = 1 by decide]; omega) (fun S2 q2 T hT => ?_)⟩) (fun c1 => zT_if (fun c2 => hT _ ⟨Or.inl rfl, yes _ (by rw [c2, show (2 : Int32).toInt = 2 by decide]; omega) (fun S2 q2 T hT => ?_)⟩) (fun c2 => zT_if (fun c3 => hT _ ⟨Or.inl rfl, yes _ (by rw [c3, show (3 : Int32).toInt = 3 by decide]; omega) (fun S2 q2 T hT => ?_)⟩) (fun c3 => hT _ ⟨Or.inr rfl, ?_⟩))))
  · exact zT_ift c (hT _ (by rw [q2, fr _ 1 (by omega), s2, s1]))
  · exact zT_iff c (zT_ift c1 (hT _ (by rw [q2, fr _ 3 (by omega), t2, t1])))
  · exact zT_iff c (zT_iff c1 (zT_ift c2 (hT _ (by rw [q2, fr _ 7 (by omega)]; exact h5.1))))
  · exact zT_iff c (zT_iff c1 (zT_iff c2 (hT _ (by rw [q2, fr _ 8 (by omega)]; exact h6.1))))
  · show zQ (zR 1) (zf_X11_about (zx_o 1 0 S) a1)
    rw [zx_1]
    refine no ?_
    rw [za_eq, e0] at c
    rw [za_eq, show (1 : Int32).toInt = 1 by decide] at c1
    rw [za_eq, show (2 : Int32).toInt = 2 by decide] at c2
    rw [za_eq, show (3 : Int32).toInt = 3 by decide] at c3
    omega
theorem zp_put (S : zs_T) (h : zI S) (a1 : Int32) : zQ (zO (fun S => zf_X11_put S a1)) (zf_X10_put S a1) := by
  obtain ⟨⟨n, hn, s1, s2, s3⟩, i2, i3, i4, i5, i6⟩ := id h
  have en : (nI n).toInt = n := za_nI (by omega)
  have em : (-32768 : Int32).toInt = -32768 := by decide
  have ep : (32767 : Int32).toInt = 32767 := by decide
  have e160 : (160 : Int32).toInt = 160 := by decide
  have no : zQ (zR 1) (zj_X11_put_15 S a1) := by
    refine zQ.of (fun T hT => ?_)
    unfold zj_X11_put_15 zj_X11_put_34
    refine zT_b2 (zr_1 S) (fun v1 S2 h2 => ?_)
    dsimp only at h2
    obtain ⟨q1, q2⟩ := h2
    subst q1; subst q2
    exact zT_iff (by decide) (hT _ (zR_no (by decide) h 0))
  refine zQ.of (fun T hT => ?_)
  unfold zf_X10_put
  rw [s1]
  refine zT_if (fun c => hT _ ⟨Or.inr (Or.inl rfl), ?_⟩) (fun c => zT_if (fun c1 => zT_if (fun c2 => ?_) (fun c2 => hT _ ⟨Or.inr (Or.inr rfl), ?_⟩)) (fun c1 => hT _ ⟨Or.inr (Or.inl rfl), ?_⟩))
  · show zQ (zR 1) (zf_X11_put (zx_o 1 0 S) a1)
    rw [zx_1]; unfold zf_X11_put; rw [if_pos c]; exact no
  · rw [za_lt, en, e160] at c2
    rw [za_lt, em] at c
    rw [za_le, ep] at c1
    refine zT_gi en (by omega) ?_
    rw [za_pos en]
    refine zT_lt (fun S1 e1 => zT_lt (fun S2 e2 => ?_))
    have c06 : S1.1 0 6 = nI n := by rw [e1, zs_in _ _ (by omega)]; exact s1
    have r2 : S2.1 0 6 = nI (n + 1) := by rw [e2, zs_ii, c06, zc_1]
    have f2 : zF (fun k j => (k = 1 ∧ j = n) ∨ (k = 0 ∧ j = 6)) zF_0 S S2 := by rw [e2, e1]; exact ((zF.rf S).wi _ (Or.inl ⟨rfl, rfl⟩)).wi _ (Or.inr ⟨rfl, rfl⟩)
    have x2 : S2.1 1 n = a1 := by rw [e2, zs_in _ _ (by omega), e1, zs_ii]
    refine hT _ ⟨Or.inl rfl, ?_⟩
    show zQ (zR 0) (zf_X11_put (zx_o 0 (S2.1 0 6) S2) a1)
    rw [zx_0, r2]
    refine zQ.of (fun T hT => ?_)
    have f3 := zS5_f S2 (nI (n + 1))
    have c41 : (zs_wl S2 59 0 (Int32.toInt64 (nI (n + 1)))).1 40 1 = nI n := (f2.1 40 1 (by omega)).trans s2
    unfold zf_X11_put
    rw [c41]
    refine zT_iff (by rw [za_lt, em]; exact c) (zT_ift (by rw [za_le, ep]; exact c1) (zT_iff (by rw [za_eq, en, e160]; omega) ?_))
    unfold zj_X11_put_34
    refine zT_b2 (zr_0 _) (fun v1 S5 h2 => ?_)
    dsimp only at h2
    obtain ⟨q1, q2⟩ := h2
    subst q1
    have q2 : S5 = zS5 S2 (nI (n + 1)) := q2
    have c5 : S5.1 40 1 = nI n := by rw [q2, f3.1 40 _ (by omega)]; exact c41
    refine zT_ift rfl ?_
    rw [c5]
    refine zT_gi en (by omega) ?_
    rw [za_pos en]
    refine zT_lt (fun S6 e6 => zT_lt (fun S7 e7 => hT _ ?_))
    have c6 : S6.1 40 1 = nI n := by rw [e6]; exact c5
    have r7 : S7.1 40 1 = nI (n + 1) := by rw [e7, zs_ii, c6, zc_1]
    have f7 : zF (fun k j => (k = 1 ∧ j = n) ∨ (k = 0 ∧ j = 6) ∨ (k = 40 ∧ (j = 0 ∨ j = 1))) (fun k j => k = 59 ∨ (k = 41 ∧ j = n)) S S7 := by
      rw [e7, e6, q2]
      exact (((f2.mo (fun k j z => by omega) (fun _ _ z => absurd z (fun z => z))).tr (f3.mo (fun k j z => by omega) (fun k j z => by omega))).wl _ (Or.inr ⟨rfl, rfl⟩)).wi _ (by omega)
    refine ⟨?_, fun _ => ?_, ⟨n + 1, by omega, ?_, r7, fun t ht => ?_⟩, i2.fr f7 (fun k j z => by omega), i3.fr f7 (fun k j z => by omega), i4.fr f7 (fun k j z => by omega), i5.fr f7 (fun k j z => by omega) (fun k j z => by omega), i6.fr f7 (fun k j z => by omega) (fun k j z => by omega)⟩
    · show S7.1 40 0 = 0
      rw [e7, zs_in _ _ (by omega), e6]
      show S5.1 40 0 = 0
      rw [q2]; exact zS5_0 _ _
    · show S7.2 59 0 = Int32.toInt64 (S7.1 40 1)
      rw [r7, e7]
      show S6.2 59 0 = _
      rw [e6, zs_ln _ _ (by omega), q2]; exact zS5_r _ _
    · show S7.1 0 6 = _
      rw [e7, zs_in _ _ (by omega), e6]
      show S5.1 0 6 = _
      rw [q2, f3.1 0 _ (by omega)]; exact r2
    · have x7 : ∀ t, S7.1 1 t = S2.1 1 t := fun t => by
        rw [e7, zs_in _ _ (by omega), e6]
        show S5.1 1 t = _
        rw [q2, f3.1 1 _ (by omega)]
      rw [x7 t]
      by_cases ct : t = n
      · subst ct
        have y7 : S7.2 41 t = Int32.toInt64 a1 := by
          rw [e7]
          show S6.2 41 t = _
          rw [e6, zs_ll]
        rw [y7, x2]
        exact ⟨zb_i2l rfl, by omega, c1⟩
      · have y7 : S7.2 41 t = S.2 41 t := f7.2 41 t (by omega)
        rw [y7, f2.1 1 t (by omega)]
        exact s3 t (by omega)
  · rw [za_lt, en, e160] at c2
    show zQ (zR 2) (zf_X11_put (zx_o 2 0 S) a1)
    rw [zx_2]
    refine zQ.of (fun T hT => ?_)
    unfold zf_X11_put
    rw [s2]
    refine zT_iff c (zT_ift c1 (zT_ift (by rw [za_eq, en, e160]; omega) ?_))
    unfold zj_X11_put_34
    refine zT_b2 (zr_2 S) (fun v1 S2 h2 => ?_)
    dsimp only at h2
    obtain ⟨q1, q2⟩ := h2
    subst q1; subst q2
    exact zT_iff (by decide) (hT _ (zR_no (by decide) h 0))
  · show zQ (zR 1) (zf_X11_put (zx_o 1 0 S) a1)
    rw [zx_1]; unfold zf_X11_put; rw [if_neg c, if_neg c1]; exact no
