/-! what the filter leaves of a frame -/
def zz_us (R : Nat → Nat → Int) (u x : Nat → Int) : Nat → Nat → Int
  | 0 => u
  | n + 1 => fun j => (zz_lat (R n) (zz_us R u x n) (x n) j).2
def zz_lf (R : Nat → Nat → Int) (u x : Nat → Int) (n : Nat) : Int := (zz_lat (R n) (zz_us R u x n) (x n) 8).1
def zz_R (h g : Nat → Int) (n : Nat) (j : Nat) : Int := zz_r (zz_stch n) (h j) (g j)
theorem zz_us_b {R : Nat → Nat → Int} {u x : Nat → Int} (hu : ∀ j, j < 8 → -32768 ≤ u j ∧ u j ≤ 32767) : ∀ n, (∀ t, t < n → -32768 ≤ x t ∧ x t ≤ 32767) → ∀ j, j < 8 → -32768 ≤ zz_us R u x n j ∧ zz_us R u x n j ≤ 32767 := by
  intro n hx j hj
  cases n with
  | zero => exact hu j hj
  | succ n => exact (zz_lat_b (hx n (by omega)) j).2
theorem zz_lf_b {R : Nat → Nat → Int} {u x : Nat → Int} {n : Nat} (hx : -32768 ≤ x n ∧ x n ≤ 32767) : -32768 ≤ zz_lf R u x n ∧ zz_lf R u x n ≤ 32767 := (zz_lat_b hx 8).1
theorem zz_R_b (h g : Nat → Int) (n j : Nat) : -32768 ≤ zz_R h g n j ∧ zz_R h g n j ≤ 32767 := by have := zz_str_b (zz_tw (zz_stch n) (h j) (g j)); unfold zz_R zz_r; omega
def zz_be : Nat → Nat
  | 0 => 0
  | n + 1 => (zt_v7 n).toNatClampNeg
theorem zz_be_1 : ∀ st, st < 4 → (zt_v7 st).toInt = (zz_be (st + 1) : Nat) := by decide
theorem zz_be_2 : ∀ st, st < 4 → zz_be st ≤ zz_be (st + 1) ∧ zz_be (st + 1) ≤ 160 := by decide
theorem zz_be_3 : ∀ st, st < 4 → ∀ n, n < 160 → zz_be st ≤ n → n < zz_be (st + 1) → zz_stch n = st := by decide +kernel
theorem zp_takein (S : zs_T) {f2 : Int32} {st : Nat} (hst : st < 4) (h2 : f2.toInt = st) {h g u x : Nat → Int} (hr : ∀ j, j < 8 → (S.1 18 j).toInt = zz_r st (h j) (g j)) (nu : ∀ j, j < 8 → -32768 ≤ u j ∧ u j ≤ 32767) (nx : ∀ t, t < 160 → -32768 ≤ x t ∧ x t ≤ 32767)
    (hu : ∀ j, j < 8 → (S.1 7 j).toInt = zz_us (zz_R h g) u x (zz_be st) j) (hl : ∀ t, t < zz_be st → (S.1 6 t).toInt = zz_lf (zz_R h g) u x t) (hx : ∀ t, zz_be st ≤ t → t < 160 → (S.1 6 t).toInt = x t) :
    zQ (fun o => o.2 = nI (zz_be (st + 1)) ∧ zF (fun k j => (k = 6 ∧ j < 160) ∨ (k = 7 ∧ j < 8)) zF_0 S o.1 ∧ (∀ j, j < 8 → (o.1.1 7 j).toInt = zz_us (zz_R h g) u x (zz_be (st + 1)) j) ∧ (∀ t, t < zz_be (st + 1) → (o.1.1 6 t).toInt = zz_lf (zz_R h g) u x t) ∧ (∀ t, zz_be (st + 1) ≤ t → t < 160 → (o.1.1 6 t).toInt = x t)) (zl_2 (zb_X1_takeAway_20 f2) 600 S (nI (zz_be st))) := by
  obtain ⟨b1, b2⟩ := zz_be_2 st hst
  have b3 := zz_be_1 st hst
  refine zQ_for _ (zz_be (st + 1)) (fun n S1 => zz_be st ≤ n ∧ zF (fun k j => (k = 6 ∧ j < 160) ∨ (k = 7 ∧ j < 8)) zF_0 S S1 ∧ (∀ j, j < 8 → (S1.1 7 j).toInt = zz_us (zz_R h g) u x n j) ∧ (∀ t, t < n → (S1.1 6 t).toInt = zz_lf (zz_R h g) u x t) ∧ (∀ t, n ≤ t → t < 160 → (S1.1 6 t).toInt = x t)) _ ?_ ?_ 600 (zz_be st) S b1 (by omega) ⟨Nat.le_refl _, zF.rf S, hu, hl, hx⟩
  · intro n Sc hn hP rec T hT
    obtain ⟨q0, hF, q1, q2, q3⟩ := hP
    have en : (nI n).toInt = n := za_nI (by omega)
    have es := zz_be_3 st hst n (by omega) q0 hn
    have nxn := nx n (by omega)
    unfold zb_X1_takeAway_20
    refine zT_gi h2 hst ?_
    rw [za_pos h2]
    refine zT_iff (by rw [za_le, b3, en]; omega) (zT_gi en (by omega) ?_)
    rw [za_pos en]
    refine zT_b2 (zp_left Sc (q3 n (Nat.le_refl _) (by omega)) nxn (r := zz_R h g n) (u := zz_us (zz_R h g) u x n) (fun j hj => by rw [hF.1 18 j (by omega), hr j hj]; unfold zz_R; rw [es]) (fun j _ => zz_R_b h g n j) q1 (zz_us_b nu n (fun t ht => nx t (by omega)))) (fun v2 S3 h3 => ?_)
    obtain ⟨w1, w2, w3⟩ := h3
    refine zT_gi en (by omega) (zT_lt (fun S4 e4 => zT_lt (fun v5 e5 => ?_)))
    rw [e5, zc_1]
    refine hT _ ⟨by omega, ?_, fun j hj => ?_, fun t ht => ?_, fun t t1 ht => ?_⟩
    · rw [e4]; exact (hF.tr (w2.mo (fun k j h => Or.inr h) (fun _ _ h => h))).wi _ (Or.inl ⟨rfl, by omega⟩)
    · rw [e4, zs_in _ _ (by omega)]; exact w3 j hj
    · by_cases c : t = n
      · subst c; rw [e4, zs_ii]; exact w1
      · rw [e4, zs_in _ _ (by omega), w2.1 6 t (by omega)]; exact q2 t (by omega)
    · rw [e4, zs_in _ _ (by omega), w2.1 6 t (by omega)]; exact q3 t (by omega) ht
  · intro Sc hP rec T hT
    obtain ⟨q0, hF, q1, q2, q3⟩ := hP
    have en : (nI (zz_be (st + 1))).toInt = (zz_be (st + 1) : Nat) := za_nI (by omega)
    unfold zb_X1_takeAway_20
    refine zT_gi h2 hst ?_
    rw [za_pos h2]
    exact zT_ift (by rw [za_le, b3, en]; omega) (hT _ ⟨rfl, hF, q1, q2, q3⟩)
theorem zp_takeAway (S : zs_T) {h g u x : Nat → Int} (hh : ∀ j, j < 8 → (S.1 17 j).toInt = h j) (hg : ∀ j, j < 8 → (S.1 16 j).toInt = g j) (nh : ∀ t, t < 8 → -32768 ≤ h t ∧ h t ≤ 32767) (ng : ∀ t, t < 8 → -32768 ≤ g t ∧ g t ≤ 32767) (nu : ∀ j, j < 8 → -32768 ≤ u j ∧ u j ≤ 32767) (nx : ∀ t, t < 160 → -32768 ≤ x t ∧ x t ≤ 32767)
    (hu : ∀ j, j < 8 → (S.1 7 j).toInt = u j) (hx : ∀ t, t < 160 → (S.1 6 t).toInt = x t) :
    zQ (fun S1 => zF (fun k j => (k = 6 ∧ j < 160) ∨ ((k = 7 ∨ k = 18) ∧ j < 8)) zF_0 S S1 ∧ (∀ j, j < 8 → (S1.1 7 j).toInt = zz_us (zz_R h g) u x 160 j) ∧ (∀ t, t < 160 → (S1.1 6 t).toInt = zz_lf (zz_R h g) u x t)) (zf_X1_takeAway S) := by
  unfold zf_X1_takeAway
  refine zQ.of (fun T hT => zT_b1 (zQ_for3 _ 4 (fun st S1 k => k = nI (zz_be st) ∧ zF (fun k j => (k = 6 ∧ j < 160) ∨ ((k = 7 ∨ k = 18) ∧ j < 8)) zF_0 S S1 ∧ (∀ j, j < 8 → (S1.1 7 j).toInt = zz_us (zz_R h g) u x (zz_be st) j) ∧ (∀ t, t < zz_be st → (S1.1 6 t).toInt = zz_lf (zz_R h g) u x t) ∧ (∀ t, zz_be st ≤ t → t < 160 → (S1.1 6 t).toInt = x t)) (fun S1 => zF (fun k j => (k = 6 ∧ j < 160) ∨ ((k = 7 ∨ k = 18) ∧ j < 8)) zF_0 S S1 ∧ (∀ j, j < 8 → (S1.1 7 j).toInt = zz_us (zz_R h g) u x 160 j) ∧ (∀ t, t < 160 → (S1.1 6 t).toInt = zz_lf (zz_R h g) u x t)) ?_ ?_ 600 0 S (0 : Int32) (by omega) (by omega) ⟨rfl, zF.rf S, hu, fun t ht => absurd ht (Nat.not_lt_zero t), fun t _ ht => hx t ht⟩) (fun S1 h1 => hT S1 h1))
  · intro st Sc k hst hP rec T hT
    obtain ⟨ek, hF, q1, q2, q3⟩ := hP
    have es : (nI st).toInt = st := za_nI (by omega)
    unfold zb_X1_takeAway_4
    refine zT_iff (by rw [za_le, es, show (4 : Int32).toInt = 4 by decide]; omega) (zT_b1 (zp_shape 17 16 18 Sc (by decide) (by decide) es (h := h) (g := g) (fun t ht => by rw [hF.1 17 t (by omega)]; exact hh t ht) (fun t ht => by rw [hF.1 16 t (by omega)]; exact hg t ht) nh ng) (fun S1 h1 => ?_))
    rw [ek]
    refine zT_b2 (zp_takein S1 hst es (h := h) (g := g) (u := u) (x := x) h1.2 nu nx (fun j hj => by rw [h1.1.1 7 j (by omega)]; exact q1 j hj) (fun t ht => by rw [h1.1.1 6 t (by omega)]; exact q2 t ht) (fun t t1 ht => by rw [h1.1.1 6 t (by omega)]; exact q3 t t1 ht)) (fun S6 v7 h6 => zT_lt (fun v8 e8 => ?_))
    obtain ⟨w1, w2, w3, w4, w5⟩ := h6
    rw [e8, zc_1]
    refine hT _ _ ⟨w1, ?_, w3, w4, w5⟩
    exact (hF.tr (h1.1.mo (fun k j h => by omega) (fun _ _ h => h))).tr (w2.mo (fun k j h => by omega) (fun _ _ h => h))
  · intro Sc k hP rec T hT
    obtain ⟨ek, hF, q1, q2, q3⟩ := hP
    unfold zb_X1_takeAway_4
    exact zT_ift (by decide) (hT _ ⟨hF, q1, q2⟩)
theorem zq_leaves (S : zs_T) {h g u x : Nat → Int} (hh : ∀ j, j < 8 → (S.2 45 j).toInt = h j) (hg : ∀ j, j < 8 → (S.2 57 j).toInt = g j) (nh : ∀ t, t < 8 → -32768 ≤ h t ∧ h t ≤ 32767) (ng : ∀ t, t < 8 → -32768 ≤ g t ∧ g t ≤ 32767) (nu : ∀ j, j < 8 → -32768 ≤ u j ∧ u j ≤ 32767) (nx : ∀ t, t < 160 → -32768 ≤ x t ∧ x t ≤ 32767)
    (hu : ∀ j, j < 8 → (S.2 46 (j + 1)).toInt = u j) (hx : ∀ t, t < 160 → (S.2 49 t).toInt = x t) :
    zQ (fun S1 => zF zF_0 (fun k j => (k = 50 ∧ j < 160) ∨ ((k = 46 ∨ k = 56) ∧ j < 9)) S S1 ∧ (∀ j, j < 8 → (S1.2 46 (j + 1)).toInt = zz_us (zz_R h g) u x 160 j) ∧ (∀ t, t < 160 → (S1.2 50 t).toInt = zz_lf (zz_R h g) u x t)) (zf_X11_leaves S) := by
  unfold zf_X11_leaves
  refine zQ.of (fun T hT => zT_b1 (zQ_for _ 160 (fun n S1 => zF zF_0 (fun k j => (k = 50 ∧ j < 160) ∨ ((k = 46 ∨ k = 56) ∧ j < 9)) S S1 ∧ (∀ j, j < 8 → (S1.2 46 (j + 1)).toInt = zz_us (zz_R h g) u x n j) ∧ (∀ t, t < n → (S1.2 50 t).toInt = zz_lf (zz_R h g) u x t) ∧ (1 ≤ n → ∀ j, j < 8 → (S1.2 56 (j + 1)).toInt = zz_R h g (n - 1) j)) (fun S1 => zF zF_0 (fun k j => (k = 50 ∧ j < 160) ∨ ((k = 46 ∨ k = 56) ∧ j < 9)) S S1 ∧ (∀ j, j < 8 → (S1.2 46 (j + 1)).toInt = zz_us (zz_R h g) u x 160 j) ∧ (∀ t, t < 160 → (S1.2 50 t).toInt = zz_lf (zz_R h g) u x t)) ?_ ?_ 600 0 S (by omega) (by omega) ⟨zF.rf S, hu, fun t ht => absurd ht (Nat.not_lt_zero t), fun h1 => absurd h1 (by omega)⟩) (fun S1 h1 => hT S1 h1))
  · intro n S0 hn hP rec T hT
    obtain ⟨hF0, p1, p2, p3⟩ := hP
    have en : (nI n).toInt = n := za_nI (by omega)
    have k37 : ∀ Sc, zF zF_0 (fun k j => (k = 50 ∧ j < 160) ∨ ((k = 46 ∨ k = 56) ∧ j < 9)) S Sc → (∀ j, j < 8 → (Sc.2 46 (j + 1)).toInt = zz_us (zz_R h g) u x n j) → (∀ t, t < n → (Sc.2 50 t).toInt = zz_lf (zz_R h g) u x t) → (∀ j, j < 8 → (Sc.2 56 (j + 1)).toInt = zz_R h g n j) → T (zj_X11_leaves_37 rec Sc (nI n)) := by
      intro Sc hF q1 q2 q3
      have x1 : (Sc.2 49 n).toInt = x n := by rw [hF.2 49 n (by omega)]; exact hx n hn
      unfold zj_X11_leaves_37
      refine zT_gi en (by omega) ?_
      rw [za_pos en]
      refine zT_lt (fun v2 e2 => zT_gi en (by omega) (zT_lt (fun v3 e3 => ?_)))
      rw [e3, e2]
      refine zT_b2 (zq_left Sc x1 (nx n hn) (r := zz_R h g n) (u := zz_us (zz_R h g) u x n) q3 (fun j _ => zz_R_b h g n j) q1 (zz_us_b nu n (fun t ht => nx t (by omega)))) (fun S11 v12 h11 => ?_)
      obtain ⟨w1, w2, w3⟩ := h11
      refine zT_gi en (by omega) (zT_lt (fun S13 e13 => zT_lt (fun v14 e14 => ?_)))
      rw [e14, zc_1]
      refine hT _ ⟨?_, fun j hj => ?_, fun t ht => ?_, fun _ j hj => ?_⟩
      · rw [e13]; exact (hF.tr (w2.mo (fun _ _ h => h) (fun k j h => Or.inr ⟨Or.inl h.1, h.2⟩))).wl _ (Or.inl ⟨rfl, hn⟩)
      · rw [e13, zs_ln _ _ (by omega)]; exact w3 j hj
      · by_cases c : t = n
        · subst c; rw [e13, zs_ll]; exact w1
        · rw [e13, zs_ln _ _ (by omega), w2.2 50 t (by omega)]; exact q2 t (by omega)
      · rw [e13, zs_ln _ _ (by omega), w2.2 56 (j + 1) (by omega)]; exact q3 j hj
    have k31 : T (zj_X11_leaves_31 rec S0 (nI n)) := by
      unfold zj_X11_leaves_31
      refine zT_b1 (zq_makesR S0 en (a2 := 0) (q := 0) (by decide) (by omega) (h := h) (g := g) (fun t ht => by rw [Nat.zero_add, hF0.2 45 t (by omega)]; exact hh t ht) (fun t ht => by rw [hF0.2 57 t (by omega)]; exact hg t ht) nh ng) (fun S1 h1 => ?_)
      exact k37 S1 (hF0.tr (h1.1.mo (fun _ _ h => h) (fun k j h => Or.inr ⟨Or.inr h.1, h.2⟩))) (fun j hj => by rw [h1.1.2 46 (j + 1) (by omega)]; exact p1 j hj) (fun t ht => by rw [h1.1.2 50 t (by omega)]; exact p2 t ht) h1.2
    unfold zb_X11_leaves_2
    refine zT_iff (by rw [za_le, en, show (160 : Int32).toInt = 160 by decide]; omega) (zT_if (fun _ => k31) (fun c0 => zT_if (fun _ => k31) (fun c1 => zT_if (fun _ => k31) (fun c2 => zT_if (fun _ => k31) (fun c3 => ?_)))))
    rw [za_eq, en, show (0 : Int32).toInt = 0 by decide] at c0
    rw [za_eq, en, show (13 : Int32).toInt = 13 by decide] at c1
    rw [za_eq, en, show (27 : Int32).toInt = 27 by decide] at c2
    rw [za_eq, en, show (40 : Int32).toInt = 40 by decide] at c3
    have es : zz_stch (n - 1) = zz_stch n := by unfold zz_stch; split <;> split <;> (try split) <;> (try split) <;> (try split) <;> (try split) <;> omega
    exact k37 S0 hF0 p1 p2 (fun j hj => by rw [p3 (by omega) j hj]; unfold zz_R; rw [es])
  · intro Sc hP rec T hT
    obtain ⟨hF0, p1, p2, p3⟩ := hP
    unfold zb_X11_leaves_2
    exact zT_ift (by decide) (hT _ ⟨hF0, p1, p2⟩)
theorem zq_keepsG (S : zs_T) {a1 : Int32} {q : Nat} (h1 : a1.toInt = q) (hq : q ≤ 8) {g : Nat → Int} (hg : ∀ j, j < 8 → (S.2 57 j).toInt = g j) :
    zQ (fun S1 => zF zF_0 (fun k j => k = 45 ∧ q ≤ j ∧ j < q + 8) S S1 ∧ ∀ t, t < 8 → (S1.2 45 (q + t)).toInt = g t) (zf_X11_keepsG S a1) := by
  unfold zf_X11_keepsG
  refine zQ.of (fun T hT => zT_b1 (zQ_mapL _ 8 45 (fun t => q + t) (fun j => q ≤ j ∧ j < q + 8) g S (fun s t _ _ h => by omega) (fun t h => by omega) (by omega) ?_ ?_) (fun S1 h1 => hT S1 h1))
  · intro j Sc hj hF hU hW rec T hT
    have ej : (nI j).toInt = j := za_nI (by omega)
    have eq : (a1 + nI j).toInt = ((q + j : Nat) : Int) := by have := za_add h1 ej (by omega) (by omega); omega
    unfold zb_X11_keepsG_2
    refine zT_iff (by rw [za_le, ej, show (8 : Int32).toInt = 8 by decide]; omega) (zT_gi ej hj (zT_gi eq (by omega) ?_))
    rw [za_pos ej, za_pos eq]
    refine zT_lt (fun S1 e1 => zT_lt (fun v2 e2 => ?_))
    rw [e2, zc_1, e1]
    exact hT _ (by rw [hF.2 57 j (by omega)]; exact hg j hj)
  · intro S1 hF rec T hT
    unfold zb_X11_keepsG_2
    exact zT_ift (by decide) hT
