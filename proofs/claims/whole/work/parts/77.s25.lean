/-! reset -/
theorem zQ_clrL (b : (zs_T → Int32 → Option zs_T) → zs_T → Int32 → Option zs_T) (k s N : Nat) (S : zs_T) (hsN : s ≤ N) (hN : N - s < 600)
    (hstep : ∀ i S1, i < N → ∀ (rec : zs_T → Int32 → Option zs_T) (T : Option zs_T → Prop), T (rec (zs_wl S1 k i (0 : Int64)) (nI (i + 1))) → T (b rec S1 (nI i)))
    (hend : ∀ S1, ∀ (rec : zs_T → Int32 → Option zs_T) (T : Option zs_T → Prop), T (some S1) → T (b rec S1 (nI N))) :
    zQ (fun S1 => zF zF_0 (fun k1 j => k1 = k ∧ s ≤ j ∧ j < N) S S1 ∧ ∀ j, s ≤ j → j < N → S1.2 k j = 0) (zl_2 b 600 S (nI s)) := by
  refine zQ_for b N (fun i S1 => s ≤ i ∧ zF zF_0 (fun k1 j => k1 = k ∧ s ≤ j ∧ j < i) S S1 ∧ ∀ j, s ≤ j → j < i → S1.2 k j = 0) _ ?_ ?_ 600 s S hsN hN ⟨Nat.le_refl _, zF.rf S, fun j h1 h2 => by omega⟩
  · intro i S1 hi hP rec T hT
    obtain ⟨p1, p2, p3⟩ := hP
    refine hstep i S1 hi rec T (hT _ ⟨by omega, (p2.mo (fun _ _ z => z) (fun k1 j z => ⟨z.1, z.2.1, by omega⟩)).wl _ ⟨rfl, p1, by omega⟩, fun j h1 h2 => ?_⟩)
    by_cases c : j = i
    · subst c; exact zs_ll _ _ _ _
    · rw [zs_ln _ _ (fun z => c z.2)]; exact p3 j h1 (by omega)
  · intro S1 hP rec T hT
    exact hend S1 rec T (hT S1 ⟨hP.2.1, hP.2.2⟩)
theorem zQ_clrI (b : (zs_T → Int32 → Option zs_T) → zs_T → Int32 → Option zs_T) (k N : Nat) (S : zs_T) (hN : N < 600)
    (hstep : ∀ i S1, i < N → ∀ (rec : zs_T → Int32 → Option zs_T) (T : Option zs_T → Prop), T (rec (zs_wi S1 k i (0 : Int32)) (nI (i + 1))) → T (b rec S1 (nI i)))
    (hend : ∀ S1, ∀ (rec : zs_T → Int32 → Option zs_T) (T : Option zs_T → Prop), T (some S1) → T (b rec S1 (nI N))) :
    zQ (fun S1 => zF (fun k1 j => k1 = k ∧ j < N) zF_0 S S1 ∧ ∀ j, j < N → S1.1 k j = 0) (zl_2 b 600 S (nI 0)) := by
  refine zQ_for b N (fun i S1 => zF (fun k1 j => k1 = k ∧ j < i) zF_0 S S1 ∧ ∀ j, j < i → S1.1 k j = 0) _ ?_ ?_ 600 0 S (by omega) (by omega) ⟨zF.rf S, fun j h2 => by omega⟩
  · intro i S1 hi hP rec T hT
    obtain ⟨p2, p3⟩ := hP
    refine hstep i S1 hi rec T (hT _ ⟨(p2.mo (fun k1 j z => ⟨z.1, by omega⟩) (fun _ _ z => z)).wi _ ⟨rfl, by omega⟩, fun j h2 => ?_⟩)
    by_cases c : j = i
    · subst c; exact zs_ii _ _ _ _
    · rw [zs_in _ _ (fun z => c z.2)]; exact p3 j (by omega)
  · intro S1 hP rec T hT
    exact hend S1 rec T (hT S1 ⟨hP.1, hP.2⟩)
theorem zq_clears (S : zs_T) (a : Nat) (ha : a < 2) : zQ (fun S1 => zF zF_0 (fun k j => (k = 45 ∧ 8 * a ≤ j ∧ j < 8 * a + 8) ∨ (k = 48 ∧ 280 * a ≤ j ∧ j < 280 * a + 280)) S S1 ∧ (∀ j, 8 * a ≤ j → j < 8 * a + 8 → S1.2 45 j = 0) ∧ (∀ j, 280 * a ≤ j → j < 280 * a + 280 → S1.2 48 j = 0)) (zf_X11_clears S (nI a)) := by
  have ea : (nI a).toInt = a := za_nI (by omega)
  have m8 : ((8 : Int32) * nI a).toInt = ((8 * a : Nat) : Int) := by rw [za_mul (show (8 : Int32).toInt = 8 by decide) ea (by omega) (by omega)]; omega
  have m280 : ((280 : Int32) * nI a).toInt = ((280 * a : Nat) : Int) := by rw [za_mul (show (280 : Int32).toInt = 280 by decide) ea (by omega) (by omega)]; omega
  have n8 : ((8 : Int32) * nI a + 8).toInt = ((8 * a + 8 : Nat) : Int) := by rw [za_add m8 (show (8 : Int32).toInt = 8 by decide) (by omega) (by omega)]; omega
  have n280 : ((280 : Int32) * nI a + 280).toInt = ((280 * a + 280 : Nat) : Int) := by rw [za_add m280 (show (280 : Int32).toInt = 280 by decide) (by omega) (by omega)]; omega
  refine zQ.of (fun T hT => ?_)
  unfold zf_X11_clears
  refine zT_lt (fun v1 e1 => ?_)
  rw [e1, za_of m8]
  refine zT_b1 (zQ_clrL _ 45 (8 * a) (8 * a + 8) S (by omega) (by omega) ?_ ?_) (fun S4 h4 => zT_lt (fun v5 e5 => ?_))
  · intro i S1 hi rec T hT
    have ei : (nI i).toInt = i := za_nI (by omega)
    unfold zb_X11_clears_5
    refine zT_iff (by rw [za_le, n8, ei]; omega) (zT_gi ei (by omega) (zT_lt (fun S2 e2 => zT_lt (fun v3 e3 => ?_))))
    rw [e3, zc_1, e2, za_pos ei]; exact hT
  · intro S1 rec T hT
    unfold zb_X11_clears_5
    have en : (nI (8 * a + 8)).toInt = ((8 * a + 8 : Nat) : Int) := za_nI (by omega)
    exact zT_ift (by rw [za_le, n8]; omega) hT
  · rw [e5, za_of m280]
    refine zT_b1 (zQ_clrL _ 48 (280 * a) (280 * a + 280) S4 (by omega) (by omega) ?_ ?_) (fun S8 h8 => hT _ ⟨?_, ?_, h8.2⟩)
    · intro i S1 hi rec T hT
      have ei : (nI i).toInt = i := za_nI (by omega)
      unfold zb_X11_clears_35
      refine zT_iff (by rw [za_le, n280, ei]; omega) (zT_gi ei (by omega) (zT_lt (fun S2 e2 => zT_lt (fun v3 e3 => ?_))))
      rw [e3, zc_1, e2, za_pos ei]; exact hT
    · intro S1 rec T hT
      unfold zb_X11_clears_35
      have en : (nI (280 * a + 280)).toInt = ((280 * a + 280 : Nat) : Int) := za_nI (by omega)
      exact zT_ift (by rw [za_le, n280]; omega) hT
    · exact (h4.1.mo (fun _ _ z => z) (fun k j z => Or.inl z)).tr (h8.1.mo (fun _ _ z => z) (fun k j z => Or.inr z))
    · intro j j1 j2
      rw [h8.1.2 45 j (by omega)]; exact h4.2 j j1 j2
/-- what each part of reset leaves -/
def zZ5c (S : zs_T) : Prop := S.1 8 0 = 0 ∧ S.1 8 1 = 0 ∧ S.1 8 2 = 0 ∧ S.1 5 9 = 0 ∧ (∀ j, j < 8 → S.1 16 j = 0) ∧ (∀ j, j < 8 → S.1 7 j = 0) ∧ (∀ j, j < 120 → S.1 20 j = 0)
def zZ5r (S : zs_T) : Prop := S.1 40 7 = 0 ∧ S.2 40 9 = 0 ∧ S.2 40 10 = 0 ∧ S.2 40 11 = 0 ∧ (∀ j, j < 8 → S.2 45 j = 0) ∧ (∀ j, j < 8 → S.2 46 (j + 1) = 0) ∧ (∀ j, j < 120 → S.2 48 j = 0)
def zZ6c (S : zs_T) : Prop := S.1 29 4 = 40 ∧ S.1 29 5 = 0 ∧ S.1 29 6 = 0 ∧ (∀ j, j < 8 → S.1 32 j = 0) ∧ (∀ j, j < 8 → S.1 30 j = 0) ∧ (∀ j, j < 120 → S.1 36 j = 0)
def zZ6r (S : zs_T) : Prop := S.1 40 16 = 40 ∧ S.2 40 17 = 0 ∧ S.1 40 8 = 0 ∧ (∀ j, j < 8 → S.2 45 (8 + j) = 0) ∧ (∀ j, j < 8 → S.2 47 j = 0) ∧ (∀ j, j < 120 → S.2 48 (280 + j) = 0)
def zZ1c (S : zs_T) : Prop := S.1 0 6 = 0 ∧ S.1 0 7 = 0 ∧ (∀ j, j < 76 → S.1 3 j = 0) ∧ (∀ j, j < 160 → S.1 4 j = 0)
def zZ1r (S : zs_T) : Prop := S.1 40 1 = 0 ∧ S.1 40 3 = 0 ∧ (∀ j, j < 76 → S.1 43 j = 0) ∧ (∀ j, j < 160 → S.1 44 j = 0)
section ZZ
variable {P Q : Nat → Nat → Prop} {S S1 : zs_T}
theorem zZ5c.fr (h : zZ5c S) (f : zF P Q S S1) (hP : ∀ k j, P k j → ¬ (k = 8 ∨ k = 16 ∨ k = 20 ∨ k = 7 ∨ (k = 5 ∧ j = 9))) : zZ5c S1 := by
  have e1 : ∀ k j, (k = 8 ∨ k = 16 ∨ k = 20 ∨ k = 7 ∨ (k = 5 ∧ j = 9)) → S1.1 k j = S.1 k j := fun k j z => f.1 k j (fun y => hP k j y z)
  obtain ⟨h1, h2, h3, h4, h5, h6, h7⟩ := h
  exact ⟨by rw [e1 _ _ (by omega)]; exact h1, by rw [e1 _ _ (by omega)]; exact h2, by rw [e1 _ _ (by omega)]; exact h3, by rw [e1 _ _ (by omega)]; exact h4, fun j hj => by rw [e1 _ _ (by omega)]; exact h5 j hj, fun j hj => by rw [e1 _ _ (by omega)]; exact h6 j hj, fun j hj => by rw [e1 _ _ (by omega)]; exact h7 j hj⟩
theorem zZ5r.fr (h : zZ5r S) (f : zF P Q S S1) (hP : ∀ k j, P k j → ¬ (k = 40 ∧ j = 7)) (hQ : ∀ k j, Q k j → ¬ ((k = 40 ∧ (j = 9 ∨ j = 10 ∨ j = 11)) ∨ (k = 45 ∧ j < 8) ∨ k = 46 ∨ (k = 48 ∧ j < 280))) : zZ5r S1 := by
  have e1 : ∀ k j, (k = 40 ∧ j = 7) → S1.1 k j = S.1 k j := fun k j z => f.1 k j (fun y => hP k j y z)
  have e2 : ∀ k j, ((k = 40 ∧ (j = 9 ∨ j = 10 ∨ j = 11)) ∨ (k = 45 ∧ j < 8) ∨ k = 46 ∨ (k = 48 ∧ j < 280)) → S1.2 k j = S.2 k j := fun k j z => f.2 k j (fun y => hQ k j y z)
  obtain ⟨h1, h2, h3, h4, h5, h6, h7⟩ := h
  exact ⟨by rw [e1 _ _ (by omega)]; exact h1, by rw [e2 _ _ (by omega)]; exact h2, by rw [e2 _ _ (by omega)]; exact h3, by rw [e2 _ _ (by omega)]; exact h4, fun j hj => by rw [e2 _ _ (by omega)]; exact h5 j hj, fun j hj => by rw [e2 _ _ (by omega)]; exact h6 j hj, fun j hj => by rw [e2 _ _ (by omega)]; exact h7 j hj⟩
theorem zZ6c.fr (h : zZ6c S) (f : zF P Q S S1) (hP : ∀ k j, P k j → ¬ (k = 32 ∨ k = 36 ∨ k = 30 ∨ (k = 29 ∧ (j = 4 ∨ j = 5 ∨ j = 6)))) : zZ6c S1 := by
  have e1 : ∀ k j, (k = 32 ∨ k = 36 ∨ k = 30 ∨ (k = 29 ∧ (j = 4 ∨ j = 5 ∨ j = 6))) → S1.1 k j = S.1 k j := fun k j z => f.1 k j (fun y => hP k j y z)
  obtain ⟨h1, h2, h3, h4, h5, h6⟩ := h
  exact ⟨by rw [e1 _ _ (by omega)]; exact h1, by rw [e1 _ _ (by omega)]; exact h2, by rw [e1 _ _ (by omega)]; exact h3, fun j hj => by rw [e1 _ _ (by omega)]; exact h4 j hj, fun j hj => by rw [e1 _ _ (by omega)]; exact h5 j hj, fun j hj => by rw [e1 _ _ (by omega)]; exact h6 j hj⟩
theorem zZ6r.fr (h : zZ6r S) (f : zF P Q S S1) (hP : ∀ k j, P k j → ¬ (k = 40 ∧ (j = 8 ∨ j = 16))) (hQ : ∀ k j, Q k j → False) : zZ6r S1 := by
  have e1 : ∀ k j, (k = 40 ∧ (j = 8 ∨ j = 16)) → S1.1 k j = S.1 k j := fun k j z => f.1 k j (fun y => hP k j y z)
  have e2 : ∀ k j, S1.2 k j = S.2 k j := fun k j => f.2 k j (fun y => hQ k j y)
  obtain ⟨h1, h2, h3, h4, h5, h6⟩ := h
  exact ⟨by rw [e1 _ _ (by omega)]; exact h1, by rw [e2 _ _]; exact h2, by rw [e1 _ _ (by omega)]; exact h3, fun j hj => by rw [e2 _ _]; exact h4 j hj, fun j hj => by rw [e2 _ _]; exact h5 j hj, fun j hj => by rw [e2 _ _]; exact h6 j hj⟩
theorem zZ1c.fr (h : zZ1c S) (f : zF P Q S S1) (hP : ∀ k j, P k j → ¬ ((k = 0 ∧ (j = 6 ∨ j = 7)) ∨ k = 3 ∨ k = 4)) : zZ1c S1 := by
  have e1 : ∀ k j, ((k = 0 ∧ (j = 6 ∨ j = 7)) ∨ k = 3 ∨ k = 4) → S1.1 k j = S.1 k j := fun k j z => f.1 k j (fun y => hP k j y z)
  obtain ⟨h1, h2, h3, h4⟩ := h
  exact ⟨by rw [e1 _ _ (by omega)]; exact h1, by rw [e1 _ _ (by omega)]; exact h2, fun j hj => by rw [e1 _ _ (by omega)]; exact h3 j hj, fun j hj => by rw [e1 _ _ (by omega)]; exact h4 j hj⟩
theorem zZ_0 {x : Int64} {y : Int32} (h : x = 0) (g : y = 0) : x.toInt = y.toInt ∧ -32768 ≤ y.toInt ∧ y.toInt ≤ 32767 := by subst h; subst g; decide
theorem zZ5_I (h : zZ5c S) (g : zZ5r S) (w : ∀ m, m < 50 → (m < 5 ∨ 45 ≤ m) → (S.1 25 m).toInt = 0) : zI5 S := by
  obtain ⟨h1, h2, h3, h4, h5, h6, h7⟩ := h
  obtain ⟨g1, g2, g3, g4, g5, g6, g7⟩ := g
  exact ⟨by rw [g1, h4], by rw [g2, h1]; decide, (zZ_0 g3 h2).1, zZ_0 g4 h3, fun j hj => zZ_0 (g5 j hj) (h5 j hj), fun j hj => zZ_0 (g6 j hj) (h6 j hj), fun j hj => zZ_0 (g7 j hj) (h7 j hj), w⟩
theorem zZ6_I (h : zZ6c S) (g : zZ6r S) : zI6 S := by
  obtain ⟨h1, h2, h3, h4, h5, h6⟩ := h
  obtain ⟨g1, g2, g3, g4, g5, g6⟩ := g
  exact ⟨by rw [g3, h3], ⟨40, by omega, by rw [h1]; decide, by rw [g1]; decide⟩, zZ_0 g2 h2, fun j hj => zZ_0 (g4 j hj) (h4 j hj), fun j hj => zZ_0 (g5 j hj) (h5 j hj), fun j hj => zZ_0 (g6 j hj) (h6 j hj)⟩
theorem zZ1_I (h : zZ1c S) (g : zZ1r S) : zI1 S ∧ zI2 S ∧ zI3 S ∧ zI4 S := by
  obtain ⟨h1, h2, h3, h4⟩ := h
  obtain ⟨g1, g2, g3, g4⟩ := g
  exact ⟨⟨0, by omega, h1, g1, fun t ht => absurd ht (Nat.not_lt_zero t)⟩, ⟨0, by omega, h2, g2, fun t ht => absurd ht (Nat.not_lt_zero t)⟩, fun j hj => by rw [g3 j hj, h3 j hj], fun j hj => by rw [g4 j hj, h4 j hj]⟩
end ZZ
/-- the class's three parts -/
theorem zp_rA (S : zs_T) : zQ (fun S1 => zF (fun k j => k = 8 ∨ k = 16 ∨ k = 20 ∨ k = 7 ∨ (k = 5 ∧ j = 9)) zF_0 S S1 ∧ zZ5c S1) (zf_X1_forget S) := by
  refine zQ.of (fun T hT => ?_)
  unfold zf_X1_forget zf_X3_forget
  refine zT_b1 (P := fun S3 => S3 = zs_wi (zs_wi (zs_wi S 8 0 (0 : Int32)) 8 1 (0 : Int32)) 8 2 (0 : Int32)) (zQ.of (fun T hT => zT_lt (fun S1 e1 => zT_lt (fun S2 e2 => zT_lt (fun S3 e3 => hT _ (by subst e1; subst e2; subst e3; rfl)))))) (fun S1 e1 => ?_)
  unfold zf_X2_forget zf_X5_forget
  refine zT_b1 (P := fun S2 => zF (fun k1 j => k1 = 16 ∧ j < 8) zF_0 S1 S2 ∧ ∀ t, t < 8 → (S2.1 16 t).toInt = (0 : Int32).toInt) (zQ.of (fun T hT => zT_b1 (zp_fillI 16 8 S1 (0 : Int32) (by omega)) (fun S2 h2 => hT _ h2))) (fun S2 h2 => ?_)
  refine zT_b1 (P := fun S3 => zF (fun k1 j => k1 = 20 ∧ j < 280) zF_0 S2 S3 ∧ ∀ t, t < 280 → (S3.1 20 t).toInt = (0 : Int32).toInt) (zQ.of (fun T hT => zT_b1 (zp_fillI 20 280 S2 (0 : Int32) (by omega)) (fun S2 h2 => hT _ h2))) (fun S3 h3 => ?_)
  refine zT_b1 (zp_fillI 7 8 S3 (0 : Int32) (by omega)) (fun S4 h4 => zT_lt (fun S5 e5 => hT _ ?_))
  have c0 : S1.1 8 0 = 0 := by rw [e1, zs_in _ _ (by omega), zs_in _ _ (by omega), zs_ii]
  have c1 : S1.1 8 1 = 0 := by rw [e1, zs_in _ _ (by omega), zs_ii]
  have c2 : S1.1 8 2 = 0 := by rw [e1, zs_ii]
  have F5 : ∀ k j, ¬ (k = 5 ∧ j = 9) → S5.1 k j = S4.1 k j := fun k j z => by rw [e5, zs_in _ _ z]
  refine ⟨?_, ?_, ?_, ?_, ?_, fun j hj => ?_, fun j hj => ?_, fun j hj => ?_⟩
  · rw [e5]
    refine zF.wi ?_ _ (by omega)
    refine zF.tr (S1 := S1) ?_ (((h2.1.mo (fun k j z => by omega) (fun _ _ z => z)).tr (h3.1.mo (fun k j z => by omega) (fun _ _ z => z))).tr (h4.1.mo (fun k j z => by omega) (fun _ _ z => z)))
    rw [e1]
    exact (((zF.rf S).wi _ (by omega)).wi _ (by omega)).wi _ (by omega)
  · rw [F5 _ _ (by omega), h4.1.1 _ _ (by omega), h3.1.1 _ _ (by omega), h2.1.1 _ _ (by omega)]; exact c0
  · rw [F5 _ _ (by omega), h4.1.1 _ _ (by omega), h3.1.1 _ _ (by omega), h2.1.1 _ _ (by omega)]; exact c1
  · rw [F5 _ _ (by omega), h4.1.1 _ _ (by omega), h3.1.1 _ _ (by omega), h2.1.1 _ _ (by omega)]; exact c2
  · rw [e5, zs_ii]
  · rw [F5 _ _ (by omega), h4.1.1 _ _ (by omega), h3.1.1 _ _ (by omega)]; exact za_eq.2 (h2.2 j hj)
  · rw [F5 _ _ (by omega)]; exact za_eq.2 (h4.2 j hj)
  · rw [F5 _ _ (by omega), h4.1.1 _ _ (by omega)]; exact za_eq.2 (h3.2 j (by omega))
theorem zp_rB (S : zs_T) : zQ (fun S1 => zF (fun k j => k = 32 ∨ k = 36 ∨ k = 30 ∨ (k = 29 ∧ (j = 4 ∨ j = 5 ∨ j = 6))) zF_0 S S1 ∧ zZ6c S1) (zf_X0_forget S) := by
  refine zQ.of (fun T hT => ?_)
  unfold zf_X0_forget zf_X2_forget zf_X5_forget
  refine zT_b1 (P := fun S2 => zF (fun k1 j => k1 = 32 ∧ j < 8) zF_0 S S2 ∧ ∀ t, t < 8 → (S2.1 32 t).toInt = (0 : Int32).toInt) (zQ.of (fun T hT => zT_b1 (zp_fillI 32 8 S (0 : Int32) (by omega)) (fun S2 h2 => hT _ h2))) (fun S1 h1 => ?_)
  refine zT_b1 (P := fun S3 => zF (fun k1 j => k1 = 36 ∧ j < 280) zF_0 S1 S3 ∧ ∀ t, t < 280 → (S3.1 36 t).toInt = (0 : Int32).toInt) (zQ.of (fun T hT => zT_b1 (zp_fillI 36 280 S1 (0 : Int32) (by omega)) (fun S2 h2 => hT _ h2))) (fun S2 h2 => ?_)
  refine zT_b1 (zp_fillI 30 9 S2 (0 : Int32) (by omega)) (fun S3 h3 => zT_lt (fun S4 e4 => zT_lt (fun S5 e5 => zT_lt (fun S6 e6 => hT _ ?_))))
  have F6 : ∀ k j, ¬ (k = 29) → S6.1 k j = S3.1 k j := fun k j z => by rw [e6, zs_in _ _ (by omega), e5, zs_in _ _ (by omega), e4, zs_in _ _ (by omega)]
  refine ⟨?_, ?_, ?_, ?_, fun j hj => ?_, fun j hj => ?_, fun j hj => ?_⟩
  · rw [e6, e5, e4]
    exact ((((h1.1.mo (fun k j z => by omega) (fun _ _ z => z)).tr ((h2.1.mo (fun k j z => by omega) (fun _ _ z => z)).tr (h3.1.mo (fun k j z => by omega) (fun _ _ z => z)))).wi _ (by omega)).wi _ (by omega)).wi _ (by omega)
  · rw [e6, zs_in _ _ (by omega), e5, zs_in _ _ (by omega), e4, zs_ii]
  · rw [e6, zs_in _ _ (by omega), e5, zs_ii]
  · rw [e6, zs_ii]
  · rw [F6 _ _ (by omega), h3.1.1 _ _ (by omega), h2.1.1 _ _ (by omega)]; exact za_eq.2 (h1.2 j hj)
  · rw [F6 _ _ (by omega)]; exact za_eq.2 (h3.2 j (by omega))
  · rw [F6 _ _ (by omega), h3.1.1 _ _ (by omega)]; exact za_eq.2 (h2.2 j (by omega))
theorem zp_rC (S : zs_T) : zQ (fun c => c.1 = 0 ∧ zF (fun k j => (k = 0 ∧ (j = 6 ∨ j = 7)) ∨ k = 3 ∨ k = 4) zF_0 S c.2.2 ∧ zZ1c c.2.2) (zj_X10_reset_42 S 2) := by
  refine zQ.of (fun T hT => ?_)
  unfold zj_X10_reset_42
  refine zT_ift rfl (zT_lt (fun S1 e1 => zT_lt (fun S2 e2 => zT_b1 (zp_fillI 3 76 S2 (0 : Int32) (by omega)) (fun S3 h3 => zT_b1 (zp_fillI 4 160 S3 (0 : Int32) (by omega)) (fun S4 h4 => hT _ ⟨rfl, ?_, ?_, ?_, fun j hj => ?_, fun j hj => ?_⟩)))))
  · refine zF.tr (S1 := S2) ?_ ((h3.1.mo (fun k j z => by omega) (fun _ _ z => z)).tr (h4.1.mo (fun k j z => by omega) (fun _ _ z => z)))
    rw [e2, e1]
    exact ((zF.rf S).wi _ (by omega)).wi _ (by omega)
  · show S4.1 0 6 = 0
    rw [h4.1.1 _ _ (by omega), h3.1.1 _ _ (by omega), e2, zs_in _ _ (by omega), e1, zs_ii]
  · show S4.1 0 7 = 0
    rw [h4.1.1 _ _ (by omega), h3.1.1 _ _ (by omega), e2, zs_ii]
  · show S4.1 3 j = 0
    rw [h4.1.1 _ _ (by omega)]; exact za_eq.2 (h3.2 j hj)
  · exact za_eq.2 (h4.2 j hj)
/-- the reference's three parts -/
theorem zq_rA (S : zs_T) (k : zs_T → Option zs_T) (T : Option zs_T → Prop) (hk : ∀ S1, zF (fun k j => k = 40 ∧ j = 7) (fun k j => (k = 40 ∧ (j = 9 ∨ j = 10 ∨ j = 11)) ∨ (k = 45 ∧ j < 8) ∨ k = 46 ∨ (k = 48 ∧ j < 280)) S S1 → zZ5r S1 → T (k S1)) :
    T (zc_lt (zs_wl S 40 9 (0 : Int64)) (fun (S18 : zs_T) => zc_lt (zs_wl S18 40 10 (0 : Int64)) (fun (S19 : zs_T) => zc_lt (zs_wl S19 40 11 (0 : Int64)) (fun (S20 : zs_T) => zc_lt (zs_wi S20 40 7 (0 : Int32)) (fun (S21 : zs_T) => zc_b1 (zf_X11_clears S21 (0 : Int32)) (fun S22 => zc_b1 (zl_2 (zb_X11_reset_54) 600 S22 (0 : Int32)) (fun S25 => k S25))))))) := by
  refine zT_lt (fun S1 e1 => zT_lt (fun S2 e2 => zT_lt (fun S3 e3 => zT_lt (fun S4 e4 => zT_b1 (zq_clears S4 0 (by omega)) (fun S5 h5 => zT_b1 (zQ_clrL _ 46 0 9 S5 (by omega) (by omega) ?_ ?_) (fun S6 h6 => hk S6 ?_ ?_))))))
  · intro i S1 hi rec T hT
    have ei : (nI i).toInt = i := za_nI (by omega)
    unfold zb_X11_reset_54
    refine zT_iff (by rw [za_le, show (9 : Int32).toInt = 9 by decide, ei]; omega) (zT_gi ei (by omega) (zT_lt (fun S2 e2 => zT_lt (fun v3 e3 => ?_))))
    rw [e3, zc_1, e2, za_pos ei]; exact hT
  · intro S1 rec T hT
    unfold zb_X11_reset_54
    exact zT_ift (by decide) hT
  · refine zF.tr (S1 := S4) ?_ ((h5.1.mo (fun _ _ z => absurd z (fun z => z)) (fun k j z => by omega)).tr (h6.1.mo (fun _ _ z => absurd z (fun z => z)) (fun k j z => by omega)))
    rw [e4, e3, e2, e1]
    exact ((((zF.rf S).wl _ (by omega)).wl _ (by omega)).wl _ (by omega)).wi _ (by omega)
  · obtain ⟨h5, x5, y5⟩ := h5
    obtain ⟨h6, x6⟩ := h6
    refine ⟨?_, ?_, ?_, ?_, fun j hj => ?_, fun j hj => ?_, fun j hj => ?_⟩
    · rw [h6.1 _ _ (fun z => z), h5.1 _ _ (fun z => z), e4, zs_ii]
    · rw [h6.2 _ _ (by omega), h5.2 _ _ (by omega), e4, zs_i2, e3, zs_ln _ _ (by omega), e2, zs_ln _ _ (by omega), e1, zs_ll]
    · rw [h6.2 _ _ (by omega), h5.2 _ _ (by omega), e4, zs_i2, e3, zs_ln _ _ (by omega), e2, zs_ll]
    · rw [h6.2 _ _ (by omega), h5.2 _ _ (by omega), e4, zs_i2, e3, zs_ll]
    · rw [h6.2 _ _ (by omega)]; exact x5 j (by omega) (by omega)
    · exact x6 (j + 1) (by omega) (by omega)
    · rw [h6.2 _ _ (by omega)]; exact y5 j (by omega) (by omega)
theorem zq_rB (S : zs_T) (k : zs_T → Option zs_T) (T : Option zs_T → Prop) (hk : ∀ S1, zF (fun k j => k = 40 ∧ (j = 8 ∨ j = 16)) (fun k j => (k = 40 ∧ j = 17) ∨ (k = 45 ∧ 8 ≤ j) ∨ k = 47 ∨ (k = 48 ∧ 280 ≤ j)) S S1 → zZ6r S1 → T (k S1)) :
    T (zc_lt (zs_wi S 40 16 (40 : Int32)) (fun (S11 : zs_T) => zc_lt (zs_wl S11 40 17 (0 : Int64)) (fun (S12 : zs_T) => zc_lt (zs_wi S12 40 8 (0 : Int32)) (fun (S13 : zs_T) => zc_b1 (zf_X11_clears S13 (1 : Int32)) (fun S14 => zc_b1 (zl_2 (zb_X11_reset_100) 600 S14 (0 : Int32)) (fun S17 => k S17)))))) := by
  refine zT_lt (fun S1 e1 => zT_lt (fun S2 e2 => zT_lt (fun S4 e4 => zT_b1 (zq_clears S4 1 (by omega)) (fun S5 h5 => zT_b1 (zQ_clrL _ 47 0 9 S5 (by omega) (by omega) ?_ ?_) (fun S6 h6 => hk S6 ?_ ?_)))))
  · intro i S1 hi rec T hT
    have ei : (nI i).toInt = i := za_nI (by omega)
    unfold zb_X11_reset_100
    refine zT_iff (by rw [za_le, show (9 : Int32).toInt = 9 by decide, ei]; omega) (zT_gi ei (by omega) (zT_lt (fun S2 e2 => zT_lt (fun v3 e3 => ?_))))
    rw [e3, zc_1, e2, za_pos ei]; exact hT
  · intro S1 rec T hT
    unfold zb_X11_reset_100
    exact zT_ift (by decide) hT
  · refine zF.tr (S1 := S4) ?_ ((h5.1.mo (fun _ _ z => absurd z (fun z => z)) (fun k j z => by omega)).tr (h6.1.mo (fun _ _ z => absurd z (fun z => z)) (fun k j z => by omega)))
    rw [e4, e2, e1]
    exact (((zF.rf S).wi _ (by omega)).wl _ (by omega)).wi _ (by omega)
  · obtain ⟨h5, x5, y5⟩ := h5
    obtain ⟨h6, x6⟩ := h6
    refine ⟨?_, ?_, ?_, fun j hj => ?_, fun j hj => ?_, fun j hj => ?_⟩
    · rw [h6.1 _ _ (fun z => z), h5.1 _ _ (fun z => z), e4, zs_in _ _ (by omega), e2, zs_l1, e1, zs_ii]
    · rw [h6.2 _ _ (by omega), h5.2 _ _ (by omega), e4, zs_i2, e2, zs_ll]
    · rw [h6.1 _ _ (fun z => z), h5.1 _ _ (fun z => z), e4, zs_ii]
    · rw [h6.2 _ _ (by omega)]; exact x5 (8 + j) (by omega) (by omega)
    · exact x6 j (by omega) (by omega)
    · rw [h6.2 _ _ (by omega)]; exact y5 (280 + j) (by omega) (by omega)
theorem zq_rC (S : zs_T) : zQ (fun S1 => zF (fun k j => (k = 40 ∧ (j = 1 ∨ j = 3)) ∨ k = 43 ∨ k = 44) zF_0 S S1 ∧ zZ1r S1) (zj_X11_reset_119 S 2) := by
  refine zQ.of (fun T hT => ?_)
  unfold zj_X11_reset_119
  refine zT_ift rfl (zT_lt (fun S1 e1 => zT_lt (fun S2 e2 => zT_b1 (zQ_clrI _ 43 76 S2 (by omega) ?_ ?_) (fun S3 h3 => zT_b1 (zQ_clrI _ 44 160 S3 (by omega) ?_ ?_) (fun S4 h4 => hT _ ⟨?_, ?_, ?_, fun j hj => ?_, fun j hj => ?_⟩)))))
  · intro i S1 hi rec T hT
    have ei : (nI i).toInt = i := za_nI (by omega)
    unfold zb_X11_reset_136
    refine zT_iff (by rw [za_le, show (76 : Int32).toInt = 76 by decide, ei]; omega) (zT_gi ei (by omega) (zT_lt (fun S2 e2 => zT_lt (fun v3 e3 => ?_))))
    rw [e3, zc_1, e2, za_pos ei]; exact hT
  · intro S1 rec T hT
    unfold zb_X11_reset_136
    exact zT_ift (by decide) hT
  · intro i S1 hi rec T hT
    have ei : (nI i).toInt = i := za_nI (by omega)
    unfold zb_X11_reset_157
    refine zT_iff (by rw [za_le, show (160 : Int32).toInt = 160 by decide, ei]; omega) (zT_gi ei (by omega) (zT_lt (fun S2 e2 => zT_lt (fun v3 e3 => ?_))))
    rw [e3, zc_1, e2, za_pos ei]; exact hT
  · intro S1 rec T hT
    unfold zb_X11_reset_157
    exact zT_ift (by decide) hT
  · refine zF.tr (S1 := S2) ?_ ((h3.1.mo (fun k j z => by omega) (fun _ _ z => z)).tr (h4.1.mo (fun k j z => by omega) (fun _ _ z => z)))
    rw [e2, e1]
    exact ((zF.rf S).wi _ (by omega)).wi _ (by omega)
  · rw [h4.1.1 _ _ (by omega), h3.1.1 _ _ (by omega), e2, zs_in _ _ (by omega), e1, zs_ii]
  · rw [h4.1.1 _ _ (by omega), h3.1.1 _ _ (by omega), e2, zs_ii]
  · rw [h4.1.1 _ _ (by omega)]; exact h3.2 j hj
  · exact h4.2 j hj
theorem zp_reset (S : zs_T) (h : zI S) (a1 : Int32) : zQ (fun c => (c.1 = 0 ∨ c.1 = 1) ∧ zQ (fun S1 => S1.1 40 0 = c.1 ∧ zI S1) (zf_X11_reset c.2.2 a1)) (zf_X10_reset S a1) := by
  obtain ⟨i1, i2, i3, i4, i5, i6⟩ := id h
  have w : ∀ m, m < 50 → (m < 5 ∨ 45 ≤ m) → (S.1 25 m).toInt = 0 := i5.2.2.2.2.2.2.2
  have e0 : (0 : Int32).toInt = 0 := by decide
  have e2 : (2 : Int32).toInt = 2 := by decide
  have no : zQ (fun S1 => S1.1 40 0 = (1 : Int32) ∧ zI S1) (zj_X11_reset_10 S a1) := by
    refine zQ.of (fun T hT => ?_)
    unfold zj_X11_reset_10 zj_X11_reset_15
    refine zT_b2 (zr_1 S) (fun v1 S2 h2 => ?_)
    dsimp only at h2
    obtain ⟨q1, q2⟩ := h2
    subst q1; subst q2
    exact zT_iff (by decide) (hT _ ⟨zs_ii _ _ _ _, h.fr ((zF.rf S).wi _ ⟨rfl, rfl⟩)⟩)
  refine zQ.of (fun T hT => ?_)
  unfold zf_X10_reset
  refine zT_if (fun c => hT _ ⟨Or.inr rfl, ?_⟩) (fun c => zT_if (fun c1 => ?_) (fun c1 => hT _ ⟨Or.inr rfl, ?_⟩))
  · show zQ (fun S1 => S1.1 40 0 = (1 : Int32) ∧ zI S1) (zf_X11_reset S a1)
    unfold zf_X11_reset; rw [if_pos c]; exact no
  · have ha : a1 = 0 ∨ a1 = 1 ∨ a1 = 2 := by
      rw [za_lt, e0] at c
      rw [za_le, e2] at c1
      rw [za_eq, za_eq, za_eq, e0, e2, show (1 : Int32).toInt = 1 by decide]; omega
    have op : ∀ S1, zf_X11_reset S1 a1 = zj_X11_reset_15 S1 a1 0 := fun S1 => by unfold zf_X11_reset; rw [if_neg c, if_pos c1]
    rcases ha with e | e | e
    all_goals subst e
    · refine zT_iff (by decide) (zT_b1 (zp_rA S) (fun S1 h1 => ?_))
      unfold zj_X10_reset_31 zj_X10_reset_42
      refine zT_ift rfl (zT_iff (by decide) (hT _ ⟨Or.inl rfl, ?_⟩))
      show zQ (fun S2 => S2.1 40 0 = (0 : Int32) ∧ zI S2) (zf_X11_reset S1 0)
      rw [op]
      refine zQ.of (fun T hT => ?_)
      unfold zj_X11_reset_15
      refine zT_b2 (zr_0 S1) (fun v1 S2 h2 => ?_)
      dsimp only at h2
      obtain ⟨q1, q2⟩ := h2
      subst q1
      have f2 : zF (fun k j => k = 40 ∧ j = 0) zF_0 S1 S2 := by rw [q2]; exact (zF.rf S1).wi _ ⟨rfl, rfl⟩
      have c2 : S2.1 40 0 = 0 := by rw [q2, zs_ii]
      refine zT_ift rfl (zT_iff (by decide) (zq_rA S2 (fun S25 => zj_X11_reset_73 S25 0) T (fun S3 f3 z3 => ?_)))
      show T (zj_X11_reset_73 S3 0)
      unfold zj_X11_reset_73 zj_X11_reset_119
      refine zT_ift rfl (zT_iff (by decide) (hT _ ⟨by rw [f3.1 _ _ (by omega)]; exact c2, ?_⟩))
      have F : zF (fun k j => (k = 8 ∨ k = 16 ∨ k = 20 ∨ k = 7 ∨ (k = 5 ∧ j = 9)) ∨ (k = 40 ∧ (j = 0 ∨ j = 7))) (fun k j => (k = 40 ∧ (j = 9 ∨ j = 10 ∨ j = 11)) ∨ (k = 45 ∧ j < 8) ∨ k = 46 ∨ (k = 48 ∧ j < 280)) S S3 :=
        (h1.1.mo (fun k j z => by omega) (fun _ _ z => absurd z (fun z => z))).tr ((f2.mo (fun k j z => by omega) (fun _ _ z => absurd z (fun z => z))).tr (f3.mo (fun k j z => by omega) (fun _ _ z => z)))
      refine ⟨i1.fr F (fun k j z => by omega) (fun k j z => by omega), i2.fr F (fun k j z => by omega), i3.fr F (fun k j z => by omega), i4.fr F (fun k j z => by omega), zZ5_I ((h1.2.fr f2 (fun k j z => by omega)).fr f3 (fun k j z => by omega)) z3 (fun m m1 m2 => ?_), i6.fr F (fun k j z => by omega) (fun k j z => by omega)⟩
      rw [F.1 _ _ (by omega)]; exact w m m1 m2
    · refine zT_ift rfl ?_
      unfold zj_X10_reset_31
      refine zT_iff (by decide) (zT_b1 (zp_rB S) (fun S1 h1 => ?_))
      unfold zj_X10_reset_42
      refine zT_iff (by decide) (hT _ ⟨Or.inl rfl, ?_⟩)
      show zQ (fun S2 => S2.1 40 0 = (0 : Int32) ∧ zI S2) (zf_X11_reset S1 1)
      rw [op]
      refine zQ.of (fun T hT => ?_)
      unfold zj_X11_reset_15
      refine zT_b2 (zr_0 S1) (fun v1 S2 h2 => ?_)
      dsimp only at h2
      obtain ⟨q1, q2⟩ := h2
      subst q1
      have f2 : zF (fun k j => k = 40 ∧ j = 0) zF_0 S1 S2 := by rw [q2]; exact (zF.rf S1).wi _ ⟨rfl, rfl⟩
      have c2 : S2.1 40 0 = 0 := by rw [q2, zs_ii]
      refine zT_ift rfl (zT_ift rfl ?_)
      unfold zj_X11_reset_73
      refine zT_iff (by decide) (zq_rB S2 (fun S17 => zj_X11_reset_119 S17 1) T (fun S3 f3 z3 => ?_))
      show T (zj_X11_reset_119 S3 1)
      unfold zj_X11_reset_119
      refine zT_iff (by decide) (hT _ ⟨by rw [f3.1 _ _ (by omega)]; exact c2, ?_⟩)
      have F : zF (fun k j => (k = 32 ∨ k = 36 ∨ k = 30 ∨ (k = 29 ∧ (j = 4 ∨ j = 5 ∨ j = 6))) ∨ (k = 40 ∧ (j = 0 ∨ j = 8 ∨ j = 16))) (fun k j => (k = 40 ∧ j = 17) ∨ (k = 45 ∧ 8 ≤ j) ∨ k = 47 ∨ (k = 48 ∧ 280 ≤ j)) S S3 :=
        (h1.1.mo (fun k j z => by omega) (fun _ _ z => absurd z (fun z => z))).tr ((f2.mo (fun k j z => by omega) (fun _ _ z => absurd z (fun z => z))).tr (f3.mo (fun k j z => by omega) (fun _ _ z => z)))
      exact ⟨i1.fr F (fun k j z => by omega) (fun k j z => by omega), i2.fr F (fun k j z => by omega), i3.fr F (fun k j z => by omega), i4.fr F (fun k j z => by omega), i5.fr F (fun k j z => by omega) (fun k j z => by omega), zZ6_I ((h1.2.fr f2 (fun k j z => by omega)).fr f3 (fun k j z => by omega)) z3⟩
    · refine zT_iff (by decide) (zT_b1 (zp_rA S) (fun S1 h1 => ?_))
      unfold zj_X10_reset_31
      refine zT_iff (by decide) (zT_b1 (zp_rB S1) (fun S2 h2 => ?_))
      obtain ⟨⟨k3, r3, S3⟩, eq3, h3⟩ := zp_rC S2
      rw [eq3]
      refine hT _ ⟨Or.inl h3.1, ?_⟩
      obtain ⟨hk3, g3, z3⟩ := h3
      have hk3 : k3 = 0 := hk3
      have g3 : zF (fun k j => (k = 0 ∧ (j = 6 ∨ j = 7)) ∨ k = 3 ∨ k = 4) zF_0 S2 S3 := g3
      have z3 : zZ1c S3 := z3
      subst hk3
      show zQ (fun S2 => S2.1 40 0 = (0 : Int32) ∧ zI S2) (zf_X11_reset S3 2)
      rw [op]
      refine zQ.of (fun T hT => ?_)
      unfold zj_X11_reset_15
      refine zT_b2 (zr_0 S3) (fun v1 S4 h4 => ?_)
      dsimp only at h4
      obtain ⟨q1, q2⟩ := h4
      subst q1
      have f4 : zF (fun k j => k = 40 ∧ j = 0) zF_0 S3 S4 := by rw [q2]; exact (zF.rf S3).wi _ ⟨rfl, rfl⟩
      have c4 : S4.1 40 0 = 0 := by rw [q2, zs_ii]
      refine zT_ift rfl (zT_iff (by decide) (zq_rA S4 (fun S25 => zj_X11_reset_73 S25 2) T (fun S5 f5 z5 => ?_)))
      show T (zj_X11_reset_73 S5 2)
      unfold zj_X11_reset_73
      refine zT_iff (by decide) (zq_rB S5 (fun S17 => zj_X11_reset_119 S17 2) T (fun S6 f6 z6 => ?_))
      show T (zj_X11_reset_119 S6 2)
      obtain ⟨S7, eq7, f7, z7⟩ := zq_rC S6
      rw [eq7]
      refine hT _ ⟨by rw [f7.1 _ _ (by omega), f6.1 _ _ (by omega), f5.1 _ _ (by omega)]; exact c4, ?_⟩
      have y5 : zZ5c S7 := (((((h1.2.fr h2.1 (fun k j z => by omega)).fr g3 (fun k j z => by omega)).fr f4 (fun k j z => by omega)).fr f5 (fun k j z => by omega)).fr f6 (fun k j z => by omega)).fr f7 (fun k j z => by omega)
      have y6 : zZ6c S7 := ((((h2.2.fr g3 (fun k j z => by omega)).fr f4 (fun k j z => by omega)).fr f5 (fun k j z => by omega)).fr f6 (fun k j z => by omega)).fr f7 (fun k j z => by omega)
      have y1 : zZ1c S7 := (((z3.fr f4 (fun k j z => by omega)).fr f5 (fun k j z => by omega)).fr f6 (fun k j z => by omega)).fr f7 (fun k j z => by omega)
      have x5 : zZ5r S7 := (z5.fr f6 (fun k j z => by omega) (fun k j z => by omega)).fr f7 (fun k j z => by omega) (fun _ _ z => absurd z (fun z => z))
      have x6 : zZ6r S7 := z6.fr f7 (fun k j z => by omega) (fun _ _ z => z)
      obtain ⟨j1, j2, j3, j4⟩ := zZ1_I y1 z7
      refine ⟨j1, j2, j3, j4, zZ5_I y5 x5 (fun m m1 m2 => ?_), zZ6_I y6 x6⟩
      rw [f7.1 _ _ (by omega), f6.1 _ _ (by omega), f5.1 _ _ (by omega), f4.1 _ _ (by omega), g3.1 _ _ (by omega), h2.1.1 _ _ (by omega), h1.1.1 _ _ (by omega)]; exact w m m1 m2
  · show zQ (fun S1 => S1.1 40 0 = (1 : Int32) ∧ zI S1) (zf_X11_reset S a1)
    unfold zf_X11_reset; rw [if_neg c, if_neg c1]; exact no
