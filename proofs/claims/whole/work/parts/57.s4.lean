/-! reflection -/
theorem za_div {a b : Int32} {x y : Int} (ha : a.toInt = x) (hb : b.toInt = y) (hx : 0 ≤ x) (hy : 0 < y) : (a / b).toInt = x / y := by
  have := za_b a
  have h1 : 0 ≤ x / y := Int.ediv_nonneg hx (by omega)
  have h2 : x / y ≤ x := Int.ediv_le_self y hx
  rw [Int32.toInt_div, ha, hb, Int.tdiv_eq_ediv_of_nonneg hx, Int.bmod_eq_of_le] <;> omega
theorem zb_div {a b : Int64} {x y : Int} (ha : a.toInt = x) (hb : b.toInt = y) (hx : 0 ≤ x) (hy : 0 < y) : (a / b).toInt = x / y := by
  have := zb_b a
  have h1 : 0 ≤ x / y := Int.ediv_nonneg hx (by omega)
  have h2 : x / y ≤ x := Int.ediv_le_self y hx
  rw [Int64.toInt_div, ha, hb, Int.tdiv_eq_ediv_of_nonneg hx, Int.bmod_eq_of_le] <;> omega
theorem zQ_mapIIs (b : (zs_T → Int32 → Option zs_T) → zs_T → Int32 → Option zs_T) (s N ka kb : Nat) (hk : ka ≠ kb) (F G : Nat → Int) (S : zs_T) (hs : s ≤ N) (hN : N < 600)
    (hstep : ∀ i S1, s ≤ i → i < N → zF (fun k1 j => (k1 = ka ∨ k1 = kb) ∧ s ≤ j ∧ j < N) zF_0 S S1 → (∀ t, i ≤ t → S1.1 ka t = S.1 ka t ∧ S1.1 kb t = S.1 kb t) → (∀ t, s ≤ t → t < i → (S1.1 ka t).toInt = F t ∧ (S1.1 kb t).toInt = G t) → ∀ (rec : zs_T → Int32 → Option zs_T) (T : Option zs_T → Prop), (∀ v w : Int32, v.toInt = F i → w.toInt = G i → T (rec (zs_wi (zs_wi S1 ka i v) kb i w) (nI (i + 1)))) → T (b rec S1 (nI i)))
    (hend : ∀ S1, zF (fun k1 j => (k1 = ka ∨ k1 = kb) ∧ s ≤ j ∧ j < N) zF_0 S S1 → ∀ (rec : zs_T → Int32 → Option zs_T) (T : Option zs_T → Prop), T (some S1) → T (b rec S1 (nI N))) :
    zQ (fun S1 => zF (fun k1 j => (k1 = ka ∨ k1 = kb) ∧ s ≤ j ∧ j < N) zF_0 S S1 ∧ (∀ t, s ≤ t → t < N → (S1.1 ka t).toInt = F t) ∧ ∀ t, s ≤ t → t < N → (S1.1 kb t).toInt = G t) (zl_2 b 600 S (nI s)) := by
  refine zQ_for b N (fun i S1 => s ≤ i ∧ zF (fun k1 j => (k1 = ka ∨ k1 = kb) ∧ s ≤ j ∧ j < N) zF_0 S S1 ∧ (∀ t, i ≤ t → S1.1 ka t = S.1 ka t ∧ S1.1 kb t = S.1 kb t) ∧ ∀ t, s ≤ t → t < i → (S1.1 ka t).toInt = F t ∧ (S1.1 kb t).toInt = G t) _ ?_ ?_ 600 s S hs (by omega) ⟨Nat.le_refl _, zF.rf S, fun t _ => ⟨rfl, rfl⟩, fun t h1 h2 => absurd h2 (Nat.not_lt.mpr h1)⟩
  · intro i S1 hi h rec T hT
    refine hstep i S1 h.1 hi h.2.1 h.2.2.1 h.2.2.2 rec T (fun v w hv hw => hT _ ⟨by omega, (h.2.1.wi v ⟨Or.inl rfl, h.1, hi⟩).wi w ⟨Or.inr rfl, h.1, hi⟩, fun t h1 => ?_, fun t h1 ht => ?_⟩)
    · rw [zs_in _ _ (by omega), zs_in _ _ (by omega), zs_in _ _ (by omega), zs_in _ _ (by omega)]; exact h.2.2.1 t (by omega)
    · by_cases c : t = i
      · subst c; rw [zs_in _ _ (by omega), zs_ii, zs_ii]; exact ⟨hv, hw⟩
      · rw [zs_in _ _ (by omega), zs_in _ _ (by omega), zs_in _ _ (by omega), zs_in _ _ (by omega)]; exact h.2.2.2 t h1 (by omega)
  · intro S1 h rec T hT
    exact hend S1 h.2.1 rec T (hT S1 ⟨h.2.1, fun t h1 ht => (h.2.2.2 t h1 ht).1, fun t h1 ht => (h.2.2.2 t h1 ht).2⟩)
theorem zQ_mapLLs (b : (zs_T → Int32 → Option zs_T) → zs_T → Int32 → Option zs_T) (s N ka kb : Nat) (hk : ka ≠ kb) (F G : Nat → Int) (S : zs_T) (hs : s ≤ N) (hN : N < 600)
    (hstep : ∀ i S1, s ≤ i → i < N → zF zF_0 (fun k1 j => (k1 = ka ∨ k1 = kb) ∧ s ≤ j ∧ j < N) S S1 → (∀ t, i ≤ t → S1.2 ka t = S.2 ka t ∧ S1.2 kb t = S.2 kb t) → (∀ t, s ≤ t → t < i → (S1.2 ka t).toInt = F t ∧ (S1.2 kb t).toInt = G t) → ∀ (rec : zs_T → Int32 → Option zs_T) (T : Option zs_T → Prop), (∀ v w : Int64, v.toInt = F i → w.toInt = G i → T (rec (zs_wl (zs_wl S1 ka i v) kb i w) (nI (i + 1)))) → T (b rec S1 (nI i)))
    (hend : ∀ S1, zF zF_0 (fun k1 j => (k1 = ka ∨ k1 = kb) ∧ s ≤ j ∧ j < N) S S1 → ∀ (rec : zs_T → Int32 → Option zs_T) (T : Option zs_T → Prop), T (some S1) → T (b rec S1 (nI N))) :
    zQ (fun S1 => zF zF_0 (fun k1 j => (k1 = ka ∨ k1 = kb) ∧ s ≤ j ∧ j < N) S S1 ∧ (∀ t, s ≤ t → t < N → (S1.2 ka t).toInt = F t) ∧ ∀ t, s ≤ t → t < N → (S1.2 kb t).toInt = G t) (zl_2 b 600 S (nI s)) := by
  refine zQ_for b N (fun i S1 => s ≤ i ∧ zF zF_0 (fun k1 j => (k1 = ka ∨ k1 = kb) ∧ s ≤ j ∧ j < N) S S1 ∧ (∀ t, i ≤ t → S1.2 ka t = S.2 ka t ∧ S1.2 kb t = S.2 kb t) ∧ ∀ t, s ≤ t → t < i → (S1.2 ka t).toInt = F t ∧ (S1.2 kb t).toInt = G t) _ ?_ ?_ 600 s S hs (by omega) ⟨Nat.le_refl _, zF.rf S, fun t _ => ⟨rfl, rfl⟩, fun t h1 h2 => absurd h2 (Nat.not_lt.mpr h1)⟩
  · intro i S1 hi h rec T hT
    refine hstep i S1 h.1 hi h.2.1 h.2.2.1 h.2.2.2 rec T (fun v w hv hw => hT _ ⟨by omega, (h.2.1.wl v ⟨Or.inl rfl, h.1, hi⟩).wl w ⟨Or.inr rfl, h.1, hi⟩, fun t h1 => ?_, fun t h1 ht => ?_⟩)
    · rw [zs_ln _ _ (by omega), zs_ln _ _ (by omega), zs_ln _ _ (by omega), zs_ln _ _ (by omega)]; exact h.2.2.1 t (by omega)
    · by_cases c : t = i
      · subst c; rw [zs_ln _ _ (by omega), zs_ll, zs_ll]; exact ⟨hv, hw⟩
      · rw [zs_ln _ _ (by omega), zs_ln _ _ (by omega), zs_ln _ _ (by omega), zs_ln _ _ (by omega)]; exact h.2.2.2 t h1 (by omega)
  · intro S1 h rec T hT
    exact hend S1 h.2.1 rec T (hT S1 ⟨h.2.1, fun t h1 ht => (h.2.2.2 t h1 ht).1, fun t h1 ht => (h.2.2.2 t h1 ht).2⟩)
/-- the small counters -/
theorem zc_c0 : (0 : Int32).toInt = ((0 : Nat) : Int) := by decide
theorem zc_c1 : (1 : Int32).toInt = ((1 : Nat) : Int) := by decide
def zz_rm (p0 p1 : Int) : Int := if zz_size p1 * 32768 / p0 ≤ 32767 then zz_size p1 * 32768 / p0 else 32767
def zz_rc (p0 p1 : Int) : Int := if p1 = 0 then 0 else if p1 ≤ 0 then zz_rm p0 p1 else -(zz_rm p0 p1)
def zz_fp (p q : Nat → Int) (r : Int) (i : Nat) : Int := if i = 0 then zz_cut (p 0 + zz_M (p 1) r) else zz_cut (p (i + 1) + zz_M (q i) r)
def zz_fq (p q : Nat → Int) (r : Int) (i : Nat) : Int := zz_cut (q i + zz_M (p (i + 1)) r)
def zz_pq (p : Nat → Int) : Nat → (Nat → Int) × (Nat → Int)
  | 0 => (p, p)
  | j + 1 => (zz_fp (zz_pq p j).1 (zz_pq p j).2 (zz_rc ((zz_pq p j).1 0) ((zz_pq p j).1 1)), zz_fq (zz_pq p j).1 (zz_pq p j).2 (zz_rc ((zz_pq p j).1 0) ((zz_pq p j).1 1)))
def zz_ok (p : Nat → Int) : Nat → Bool
  | 0 => true
  | j + 1 => zz_ok p j && decide (zz_size ((zz_pq p j).1 1) ≤ (zz_pq p j).1 0)
def zz_rj (p : Nat → Int) (j : Nat) : Int := if zz_ok p (j + 1) = true then zz_rc ((zz_pq p j).1 0) ((zz_pq p j).1 1) else 0
theorem zz_ok_f {p : Nat → Int} {j : Nat} (h : zz_ok p j = false) : ∀ k, j ≤ k → zz_ok p k = false := by
  intro k hk
  induction k with
  | zero => have : j = 0 := by omega
            subst this; exact h
  | succ k ih =>
    by_cases c : j = k + 1
    · subst c; exact h
    · simp only [zz_ok]; rw [ih (by omega)]; rfl
theorem zz_pq_num {p : Nat → Int} (hp : ∀ t, -32768 ≤ p t ∧ p t ≤ 32767) : ∀ j, (∀ t, -32768 ≤ (zz_pq p j).1 t ∧ (zz_pq p j).1 t ≤ 32767) ∧ (∀ t, -32768 ≤ (zz_pq p j).2 t ∧ (zz_pq p j).2 t ≤ 32767) := by
  intro j
  cases j with
  | zero => exact ⟨hp, hp⟩
  | succ j =>
    refine ⟨fun t => ?_, fun t => zz_cut_b _⟩
    simp only [zz_pq, zz_fp]
    split <;> exact zz_cut_b _
theorem zz_rm_b {p0 p1 : Int} (h : 0 < p0) : 0 ≤ zz_rm p0 p1 ∧ zz_rm p0 p1 ≤ 32767 := by
  have hs := zz_size_b p1
  have : 0 ≤ zz_size p1 * 32768 / p0 := Int.ediv_nonneg (by omega) (by omega)
  unfold zz_rm
  split <;> omega
theorem zz_rc_b {p0 p1 : Int} (h : zz_size p1 ≤ p0) (hp : -32768 ≤ p1 ∧ p1 ≤ 32767) : -32767 ≤ zz_rc p0 p1 ∧ zz_rc p0 p1 ≤ 32767 := by
  unfold zz_rc
  split
  · omega
  · rename_i c
    have : 0 < zz_size p1 := by unfold zz_size zz_cut; split <;> split <;> (try split) <;> omega
    have := zz_rm_b (p0 := p0) (p1 := p1) (by omega)
    split <;> omega
theorem zz_size_0 {x : Int} : zz_size x = 0 ↔ x = 0 := by unfold zz_size zz_cut; split <;> split <;> (try split) <;> omega
theorem zp_reflection {a1 a2 : Int32} {p0 p1 : Int} (h1 : a1.toInt = p1) (h2 : a2.toInt = p0) (hp : -32768 ≤ p1 ∧ p1 ≤ 32767) (hs : zz_size p1 ≤ p0) (h0 : p0 ≤ 32767) : zQ (fun r => r.toInt = zz_rc p0 p1) (zf_X6_reflection a1 a2) := by
  have hsb := zz_size_b p1
  have key : ∀ z : Int32, z.toInt = zz_rm p0 p1 → ¬ p1 = 0 → 0 < p0 → ∀ T : Option Int32 → Prop, (∀ r, r.toInt = zz_rc p0 p1 → T (some r)) → T (zj_X6_reflection_34 a1 z) := by
    intro z hz hp1 hp0 T hT
    have := zz_rm_b (p0 := p0) (p1 := p1) hp0
    unfold zj_X6_reflection_34
    refine zT_if (fun c => hT _ ?_) (fun c => hT _ ?_)
    · rw [za_le, h1] at c
      have c : p1 ≤ 0 := c
      rw [hz]; unfold zz_rc; rw [if_neg hp1, if_pos c]
    · rw [za_le, h1] at c
      have c : ¬ p1 ≤ 0 := c
      rw [za_neg hz (by omega)]; unfold zz_rc; rw [if_neg hp1, if_neg c]
  refine zQ.of (fun T hT => ?_)
  unfold zf_X6_reflection
  refine zT_if (fun c => ?_) (fun c => ?_)
  · rw [za_eq, h1] at c
    have c : p1 = 0 := c
    exact hT _ (by unfold zz_rc; rw [if_pos c]; rfl)
  · rw [za_eq, h1] at c
    have c : ¬ p1 = 0 := c
    have hs0 : ¬ zz_size p1 = 0 := fun z => c (zz_size_0.mp z)
    have hp0 : 0 < p0 := by omega
    refine zT_ift (by rw [za_lt, h2]; exact hp0) (zT_lt (fun v1 e1 => zT_nz (fun z => ?_) (zT_lt (fun v2 e2 => ?_))))
    · rw [za_eq, h2] at z
      have z : p0 = 0 := z
      omega
    · have q1 : v1.toInt = zz_size p1 := by rw [e1]; exact zp_size h1 (by omega)
      have q2 : v2.toInt = zz_size p1 * 32768 / p0 := by
        rw [e2]; exact za_div (za_mul q1 (by decide) (by omega) (by omega)) h2 (by omega) hp0
      refine zT_if (fun c2 => ?_) (fun c2 => ?_)
      · rw [za_le, q2] at c2
        have c2 : zz_size p1 * 32768 / p0 ≤ 32767 := c2
        exact key v2 (by rw [q2]; unfold zz_rm; rw [if_pos c2]) c hp0 T hT
      · rw [za_le, q2] at c2
        have c2 : ¬ zz_size p1 * 32768 / p0 ≤ 32767 := c2
        exact key _ (by unfold zz_rm; rw [if_neg c2]; decide) c hp0 T hT
theorem zp_fold (S : zs_T) {a1 a2 : Int32} {L : Nat} {r : Int} {p q : Nat → Int} (hL : L ≤ 7) (h1 : a1.toInt = 8 - L) (h2 : a2.toInt = r) (hr : -32768 ≤ r ∧ r ≤ 32768) (hp : ∀ t, t ≤ L + 1 → (S.1 12 t).toInt = p t) (hq : ∀ t, 1 ≤ t → t ≤ L → (S.1 13 t).toInt = q t) (np : ∀ t, -32768 ≤ p t ∧ p t ≤ 32767) (nq : ∀ t, -32768 ≤ q t ∧ q t ≤ 32767) :
    zQ (fun S1 => zF (fun k1 j => (k1 = 12 ∨ k1 = 13) ∧ j < 9) zF_0 S S1 ∧ (∀ t, t ≤ L → (S1.1 12 t).toInt = zz_fp p q r t) ∧ ∀ t, 1 ≤ t → t ≤ L → (S1.1 13 t).toInt = zz_fq p q r t) (zf_X6_fold S a1 a2) := by
  have e8 : ((8 : Int32) - a1).toInt = L := by have := za_sub (show (8 : Int32).toInt = 8 by decide) h1 (by omega) (by omega); omega
  refine zQ.of (fun T hT => ?_)
  unfold zf_X6_fold
  refine zT_gi zc_c0 (by omega) (zT_gi zc_c1 (by omega) ?_)
  rw [za_pos zc_c0, za_pos zc_c1]
  have n0 := np 0
  have n1 := np 1
  refine zT_lt (fun v1 e1 => zT_lt (fun v2 e2 => zT_gi zc_c0 (by omega) (zT_lt (fun S3 e3 => ?_))))
  have q1 : v1.toInt = zz_M (p 1) r := by rw [e1]; exact zp_rounded (hp 1 (by omega)) h2 (by omega) (by omega) (by omega) (by omega)
  have b1 := zz_M_b (p 1) r
  have q2 : v2.toInt = zz_fp p q r 0 := by rw [e2, zp_cut (za_add (hp 0 (by omega)) q1 (by omega) (by omega))]; rfl
  have f3 : zF (fun k1 j => (k1 = 12 ∨ k1 = 13) ∧ j < 9) zF_0 S S3 := by rw [e3]; exact (zF.rf S).wi _ ⟨Or.inl rfl, by omega⟩
  have p3 : ∀ t, 1 ≤ t → t ≤ L + 1 → (S3.1 12 t).toInt = p t := fun t ht h => by rw [e3, zs_in _ _ (by omega)]; exact hp t h
  have z3 : (S3.1 12 0).toInt = zz_fp p q r 0 := by rw [e3, zs_ii]; exact q2
  have w3 : ∀ t, 1 ≤ t → t ≤ L → (S3.1 13 t).toInt = q t := fun t ht h => by rw [e3, zs_in _ _ (by omega)]; exact hq t ht h
  clear e3
  refine zT_b1 (zQ_mapIIs _ 1 (L + 1) 12 13 (by decide) (zz_fp p q r) (zz_fq p q r) S3 (by omega) (by omega) ?_ ?_) (fun S4 h4 => hT S4 ⟨f3.tr (h4.1.mo (fun k j h => ⟨h.1, by omega⟩) (fun _ _ h => h)), fun t ht => ?_, fun t t1 ht => h4.2.2 t t1 (by omega)⟩)
  · intro i Sc h1i hi hF hU hW rec T hT
    have ei : (nI i).toInt = i := za_nI (by omega)
    have ei1 : (nI i + (1 : Int32)).toInt = ((i + 1 : Nat) : Int) := by have := za_add ei (show (1 : Int32).toInt = 1 by decide) (by omega) (by omega); omega
    have x1 : (Sc.1 12 (i + 1)).toInt = p (i + 1) := by rw [(hU (i + 1) (by omega)).1]; exact p3 (i + 1) (by omega) (by omega)
    have x2 : (Sc.1 13 i).toInt = q i := by rw [(hU i (by omega)).2]; exact w3 i h1i (by omega)
    have np1 := np (i + 1)
    have nq1 := nq i
    have b2 := zz_M_b (q i) r
    have b3 := zz_M_b (p (i + 1)) r
    unfold zb_X6_fold_28
    refine zT_iff (by rw [za_lt, e8, ei]; omega) (zT_gi ei1 (by omega) (zT_gi ei (by omega) ?_))
    rw [za_pos ei, za_pos ei1]
    refine zT_lt (fun v4 e4 => zT_lt (fun v5 e5 => zT_gi ei (by omega) (zT_lt (fun S6 e6 => zT_gi ei (by omega) (zT_gi ei1 (by omega) (zT_lt (fun v7 e7 => zT_lt (fun v8 e8 => zT_gi ei (by omega) (zT_lt (fun S9 e9 => zT_lt (fun v10 e10 => ?_)))))))))))
    have y1 : (S6.1 12 (i + 1)).toInt = p (i + 1) := by rw [e6, zs_in _ _ (by omega)]; exact x1
    have y2 : (S6.1 13 i).toInt = q i := by rw [e6, zs_in _ _ (by omega)]; exact x2
    rw [e10, zc_1, e9, e6]
    refine hT _ _ ?_ ?_
    · have z1 : v4.toInt = zz_M (q i) r := by rw [e4]; exact zp_rounded x2 h2 (by omega) (by omega) (by omega) (by omega)
      rw [e5, zp_cut (za_add x1 z1 (by omega) (by omega))]
      unfold zz_fp; rw [if_neg (by omega)]
    · have z1 : v7.toInt = zz_M (p (i + 1)) r := by rw [e7]; exact zp_rounded y1 h2 (by omega) (by omega) (by omega) (by omega)
      rw [e8, zp_cut (za_add y2 z1 (by omega) (by omega))]
      rfl
  · intro S1 hF rec T hT
    have ei : (nI (L + 1)).toInt = ((L + 1 : Nat) : Int) := za_nI (by omega)
    unfold zb_X6_fold_28
    exact zT_ift (by rw [za_lt, e8, ei]; omega) hT
  · by_cases c : t = 0
    · subst c; rw [h4.1.1 12 0 (by omega)]; exact z3
    · exact h4.2.1 t (by omega) (by omega)
