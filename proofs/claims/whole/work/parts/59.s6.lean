/-- the reference's reflection -/
theorem zq_fold (S : zs_T) {f2 : Int32} {L : Nat} {r : Int} {p q : Nat → Int} (hL : L ≤ 7) (h1 : f2.toInt = ((8 - L : Nat) : Int)) (h2 : (S.2 56 (8 - L)).toInt = r) (hr : -32768 ≤ r ∧ r ≤ 32768) (hp : ∀ t, 1 ≤ t → t ≤ L + 1 → (S.2 54 t).toInt = p t) (hq : ∀ t, 1 ≤ t → t ≤ L → (S.2 55 t).toInt = q t) (np : ∀ t, -32768 ≤ p t ∧ p t ≤ 32767) (nq : ∀ t, -32768 ≤ q t ∧ q t ≤ 32767) :
    zQ (fun S1 => zF zF_0 (fun k1 j => (k1 = 55 ∨ k1 = 54) ∧ 1 ≤ j ∧ j < L + 1) S S1 ∧ (∀ t, 1 ≤ t → t < L + 1 → (S1.2 55 t).toInt = zz_fq p q r t) ∧ ∀ t, 1 ≤ t → t < L + 1 → (S1.2 54 t).toInt = zz_fp p q r t) (zl_2 (zb_X11_reflects_218 f2) 600 S (1 : Int32)) := by
  have e8 : ((8 : Int32) - f2).toInt = L := by have := za_sub (show (8 : Int32).toInt = 8 by decide) h1 (by omega) (by omega); omega
  refine zQ_mapLLs _ 1 (L + 1) 55 54 (by decide) (zz_fq p q r) (zz_fp p q r) S (by omega) (by omega) ?_ ?_
  · intro i Sc h1i hi hF hU hW rec T hT
    have ei : (nI i).toInt = i := za_nI (by omega)
    have ei1 : (nI i + (1 : Int32)).toInt = ((i + 1 : Nat) : Int) := by have := za_add ei (show (1 : Int32).toInt = 1 by decide) (by omega) (by omega); omega
    have x1 : (Sc.2 54 (i + 1)).toInt = p (i + 1) := by rw [(hU (i + 1) (by omega)).2]; exact hp (i + 1) (by omega) (by omega)
    have x2 : (Sc.2 55 i).toInt = q i := by rw [(hU i (by omega)).1]; exact hq i h1i (by omega)
    have x3 : (Sc.2 56 (8 - L)).toInt = r := by rw [hF.2 56 (8 - L) (by omega)]; exact h2
    have np1 := np (i + 1)
    have nq1 := nq i
    have b2 := zz_M_b (q i) r
    have b3 := zz_M_b (p (i + 1)) r
    unfold zb_X11_reflects_218
    refine zT_iff (by rw [za_lt, e8, ei]; omega) (zT_gi ei1 (by omega) (zT_gi ei (by omega) (zT_gi h1 (by omega) ?_)))
    rw [za_pos ei, za_pos ei1, za_pos h1]
    refine zT_lt (fun v4 e4 => zT_lt (fun v5 e5 => zT_gi ei (by omega) (zT_gi ei1 (by omega) (zT_gi h1 (by omega) (zT_lt (fun v7 e7 => zT_lt (fun v8 e8 => zT_gi ei (by omega) (zT_lt (fun S9 e9 => zT_gi ei (by omega) (zT_lt (fun S10 e10 => zT_lt (fun v11 e11 => ?_))))))))))))
    rw [e11, zc_1, e10, e9]
    refine hT _ _ ?_ ?_
    · have z1 : v7.toInt = zz_M (p (i + 1)) r := by rw [e7]; exact zq_rounded x1 x3 (by omega) (by omega) (by omega) (by omega)
      rw [e8, zq_cut (zb_add x2 z1 (by omega) (by omega))]
      rfl
    · have z1 : v4.toInt = zz_M (q i) r := by rw [e4]; exact zq_rounded x2 x3 (by omega) (by omega) (by omega) (by omega)
      rw [e5, zq_cut (zb_add x1 z1 (by omega) (by omega))]
      unfold zz_fp; rw [if_neg (by omega)]
  · intro S1 hF rec T hT
    have ei : (nI (L + 1)).toInt = ((L + 1 : Nat) : Int) := za_nI (by omega)
    unfold zb_X11_reflects_218
    exact zT_ift (by rw [za_lt, e8, ei]; omega) hT
theorem zq_reflects (S : zs_T) {K : Nat → Int} (hK : ∀ t, t < 9 → (S.2 53 t).toInt = K t) (hb : ∀ k, -(K 0) ≤ K k ∧ K k ≤ K 0) (h0 : K 0 < 2147483648) :
    zQ (fun S1 => zF zF_0 (fun k1 j => (k1 = 56 ∧ j < 9) ∨ ((k1 = 54 ∨ k1 = 55) ∧ j < 9)) S S1 ∧ ∀ t, t < 8 → (S1.2 56 (t + 1)).toInt = zz_refl K t) (zf_X11_reflects S) := by
  refine zQ.of (fun T hT => ?_)
  unfold zf_X11_reflects
  refine zT_b1 (zQ_mapL _ 9 56 (fun t => t) (fun j => j < 9) (fun _ => 0) S (fun s t _ _ h => h) (fun t h => h) (by omega) ?_ ?_) (fun S1 h1 => zT_gi zc_c0 (by omega) ?_)
  · intro i Sc hi hF hU hW rec T hT
    have ei : (nI i).toInt = i := za_nI (by omega)
    unfold zb_X11_reflects_2
    refine zT_iff (by rw [za_le, ei, show (9 : Int32).toInt = 9 by decide]; omega) (zT_gi ei (by omega) (zT_lt (fun S1 e1 => zT_lt (fun v2 e2 => ?_))))
    rw [e2, zc_1, e1, za_pos ei]
    exact hT _ (by decide)
  · intro S1 hF rec T hT
    unfold zb_X11_reflects_2
    exact zT_ift (by decide) hT
  rw [za_pos zc_c0]
  have hK1 : ∀ t, t < 9 → (S1.2 53 t).toInt = K t := fun t ht => by rw [h1.1.2 53 t (by omega)]; exact hK t ht
  have fr1 : zF zF_0 (fun k1 j => (k1 = 56 ∧ j < 9) ∨ ((k1 = 54 ∨ k1 = 55) ∧ j < 9)) S S1 := h1.1.mo (fun _ _ h => h) (fun k j h => Or.inl h)
  refine zT_if (fun c => ?_) (fun c => ?_)
  · rw [zb_eq, hK1 0 (by omega)] at c
    have c : K 0 = 0 := c
    exact hT S1 ⟨fr1, fun t ht => by rw [h1.2 (t + 1) (by omega)]; unfold zz_refl; rw [if_pos c]⟩
  · rw [zb_eq, hK1 0 (by omega)] at c
    have c : ¬ K 0 = 0 := c
    have hK0 : 1 ≤ K 0 := by have := hb 0; omega
    have hkb := zz_kp_b hK0 h0 hb
    obtain ⟨g1, g2, g3, -⟩ := zz_norm_s hK0 h0
    refine zT_gi zc_c0 (by omega) (zT_b1 (zq_norm (hK1 0 (by omega)) hK0 h0) (fun v2 h2 => ?_))
    have ev2 : v2.toInt = (zz_norm (K 0) : Nat) := by rw [h2]; exact za_nI (by omega)
    refine zT_b1 (zQ_mapLL _ 9 54 55 (by decide) (zz_kp K) (zz_kp K) S1 (by omega) ?_ ?_) (fun S6 h6 => ?_)
    · intro i Sc hi hF hU hW rec T hT
      have ei : (nI i).toInt = i := za_nI (by omega)
      have hi1 := hkb i
      have ek : (Sc.2 53 i).toInt = K i := by rw [hF.2 53 i (by omega)]; exact hK1 i hi
      unfold zb_X11_reflects_45
      refine zT_iff (by rw [za_le, ei, show (9 : Int32).toInt = 9 by decide]; omega) (zT_gi ei (by omega) (zT_gi ei (by omega) ?_))
      rw [za_pos ei]
      refine zT_lt (fun S3 e3 => zT_gi ei (by omega) (zT_gi ei (by omega) (zT_lt (fun S4 e4 => zT_lt (fun v5 e5 => ?_)))))
      have e7 := zb_sr (n := 16) 16 65536 (zb_shl ek ev2 (by omega) (by omega) (by omega)) (by decide) (by decide) (by decide)
      rw [e5, zc_1, e4, e3, zs_ll]
      exact hT _ _ e7 e7
    · intro S1 hF rec T hT
      unfold zb_X11_reflects_45
      exact zT_ift (by decide) hT
    · have fr6 : zF zF_0 (fun k1 j => (k1 = 56 ∧ j < 9) ∨ ((k1 = 54 ∨ k1 = 55) ∧ j < 9)) S S6 := fr1.tr (h6.1.mo (fun _ _ h => h) (fun k j h => Or.inr h))
      have r6 : ∀ t, t < 8 → (S6.2 56 (t + 1)).toInt = 0 := fun t ht => by rw [h6.1.2 56 (t + 1) (by omega)]; exact h1.2 (t + 1) (by omega)
      have np : ∀ t, -32768 ≤ zz_kp K t ∧ zz_kp K t ≤ 32767 := fun t => (hkb t).2
      refine zT_s1 (P := fun S1 => zF zF_0 (fun k1 j => (k1 = 56 ∧ j < 9) ∨ ((k1 = 54 ∨ k1 = 55) ∧ j < 9)) S S1 ∧ ∀ t, t < 8 → (S1.2 56 (t + 1)).toInt = zz_rj (zz_kp K) t) (Q := fun S1 => zF zF_0 (fun k1 j => (k1 = 56 ∧ j < 9) ∨ ((k1 = 54 ∨ k1 = 55) ∧ j < 9)) S S1 ∧ ∀ t, t < 8 → (S1.2 56 (t + 1)).toInt = zz_rj (zz_kp K) t) ?_ (fun S7 h7 => hT S7 ⟨h7.1, fun t ht => by unfold zz_refl; rw [if_neg c]; exact h7.2 t ht⟩) (fun S7 h7 => hT S7 ⟨h7.1, fun t ht => by unfold zz_refl; rw [if_neg c]; exact h7.2 t ht⟩)
      refine zQ_wh2 _ 8 (fun e a c => c = nI (e + 1) ∧ e ≤ 8 ∧ zz_ok (zz_kp K) e = true ∧ zF zF_0 (fun k1 j => (k1 = 56 ∧ j < 9) ∨ ((k1 = 54 ∨ k1 = 55) ∧ j < 9)) S a ∧ (∀ t, t ≤ 8 - e → (a.2 54 t).toInt = (zz_pq (zz_kp K) e).1 t) ∧ (∀ t, 1 ≤ t → t ≤ 8 - e → (a.2 55 t).toInt = (zz_pq (zz_kp K) e).2 t) ∧ (∀ t, t < e → (a.2 56 (t + 1)).toInt = zz_rj (zz_kp K) t) ∧ (∀ t, e ≤ t → t < 8 → (a.2 56 (t + 1)).toInt = 0)) _ ?_ 600 0 S6 (1 : Int32) (by omega) (by omega) ⟨rfl, by omega, rfl, fr6, fun t ht => h6.2.1 t (by omega), fun t h1 ht => h6.2.2 t (by omega), fun t ht => absurd ht (Nat.not_lt_zero t), fun t _ ht => r6 t ht⟩
      intro e a x hP rec T hT hR
      obtain ⟨ex, he, hok, hF, hp, hq, hr, hz⟩ := hP
      have ee : (nI (e + 1)).toInt = ((e + 1 : Nat) : Int) := za_nI (by omega)
      unfold zb_X11_reflects_88
      rw [ex]
      refine zT_if (fun c8 => ?_) (fun c8 => ?_)
      · rw [za_le, ee, show (9 : Int32).toInt = 9 by decide] at c8
        have : e = 8 := by omega
        subst this
        exact hT _ ⟨hF, hr⟩
      · rw [za_le, ee, show (9 : Int32).toInt = 9 by decide] at c8
        refine zT_gi zc_c1 (by omega) ?_
        rw [za_pos zc_c0, za_pos zc_c1]
        have hp0 := hp 0 (by omega)
        have hp1 := hp 1 (by omega)
        obtain ⟨nn1, nn2⟩ := zz_pq_num np e
        have n0 := nn1 0
        have n1 := nn1 1
        have hs := zq_size hp1 (by omega)
        refine zT_lt (fun v7 e7 => zT_gi zc_c0 (by omega) (zT_if (fun c7 => ?_) (fun c7 => ?_)))
        · rw [zb_le, e7, hs, hp0] at c7
          have hok1 : zz_ok (zz_kp K) (e + 1) = true := by simp only [zz_ok]; rw [hok, decide_eq_true c7]; rfl
          have hrj : zz_rj (zz_kp K) e = zz_rc ((zz_pq (zz_kp K) e).1 0) ((zz_pq (zz_kp K) e).1 1) := by unfold zz_rj; rw [if_pos hok1]
          have hrb := zz_rc_b c7 n1
          -- with the number of this turn
          have k183 : ∀ z : Int64, z.toInt = zz_rc ((zz_pq (zz_kp K) e).1 0) ((zz_pq (zz_kp K) e).1 1) → T (zj_X11_reflects_183 rec a (nI (e + 1)) z (nI (e + 1))) := by
            intro z hz0
            unfold zj_X11_reflects_183
            refine zT_gi ee (by omega) ?_
            rw [za_pos ee]
            refine zT_lt (fun S10 e10 => zT_gi zc_c0 (by omega) (zT_gi zc_c1 (by omega) (zT_gi ee (by omega) ?_)))
            rw [za_pos zc_c0, za_pos zc_c1]
            refine zT_lt (fun v11 e11 => zT_lt (fun v12 e12 => zT_gi zc_c0 (by omega) (zT_lt (fun S13 e13 => ?_))))
            have y1 : (S10.2 54 1).toInt = (zz_pq (zz_kp K) e).1 1 := by rw [e10, zs_ln _ _ (by omega)]; exact hp1
            have y0 : (S10.2 54 0).toInt = (zz_pq (zz_kp K) e).1 0 := by rw [e10, zs_ln _ _ (by omega)]; exact hp0
            have yr : (S10.2 56 (e + 1)).toInt = zz_rc ((zz_pq (zz_kp K) e).1 0) ((zz_pq (zz_kp K) e).1 1) := by rw [e10, zs_ll]; exact hz0
            have b1 := zz_M_b ((zz_pq (zz_kp K) e).1 1) (zz_rc ((zz_pq (zz_kp K) e).1 0) ((zz_pq (zz_kp K) e).1 1))
            have q11 : v11.toInt = zz_M ((zz_pq (zz_kp K) e).1 1) (zz_rc ((zz_pq (zz_kp K) e).1 0) ((zz_pq (zz_kp K) e).1 1)) := by rw [e11]; exact zq_rounded y1 yr (by omega) (by omega) (by omega) (by omega)
            have q12 : v12.toInt = (zz_pq (zz_kp K) (e + 1)).1 0 := by rw [e12, zq_cut (zb_add y0 q11 (by omega) (by omega))]; rfl
            have e87 : 8 - (7 - e) = e + 1 := by omega
            refine zT_b1 (zq_fold S13 (L := 7 - e) (f2 := nI (e + 1)) (r := zz_rc ((zz_pq (zz_kp K) e).1 0) ((zz_pq (zz_kp K) e).1 1)) (p := (zz_pq (zz_kp K) e).1) (q := (zz_pq (zz_kp K) e).2) (by omega) (by rw [ee, e87]) (by rw [e87, e13, zs_ln _ _ (by omega)]; exact yr) (by omega) (fun t t1 ht => by rw [e13, zs_ln _ _ (by omega), e10, zs_ln _ _ (by omega)]; exact hp t (by omega)) (fun t t1 ht => by rw [e13, zs_ln _ _ (by omega), e10, zs_ln _ _ (by omega)]; exact hq t t1 (by omega)) nn1 nn2) (fun S21 h21 => zT_lt (fun v22 e22 => ?_))
            rw [e22, zc_1]
            refine hR _ _ (by omega) ⟨rfl, by omega, hok1, ?_, fun t ht => ?_, fun t t1 ht => h21.2.1 t t1 (by omega), fun t ht => ?_, fun t t1 ht => ?_⟩
            · exact (hF.tr (by rw [e13, e10]; exact ((zF.rf a).wl _ (Or.inl ⟨rfl, by omega⟩)).wl _ (Or.inr ⟨Or.inl rfl, by omega⟩))).tr (h21.1.mo (fun _ _ h => h) (fun k j h => Or.inr (by omega)))
            · by_cases ct : t = 0
              · subst ct; rw [h21.1.2 54 0 (by omega), e13, zs_ll]; exact q12
              · exact h21.2.2 t (by omega) (by omega)
            · rw [h21.1.2 56 (t + 1) (by omega), e13, zs_ln _ _ (by omega)]
              by_cases ct : t = e
              · subst ct; rw [hrj]; exact yr
              · rw [e10, zs_ln _ _ (by omega)]; exact hr t (by omega)
            · rw [h21.1.2 56 (t + 1) (by omega), e13, zs_ln _ _ (by omega), e10, zs_ln _ _ (by omega)]; exact hz t (by omega) ht
          have k157 : ∀ z : Int64, ((zz_pq (zz_kp K) e).1 1 = 0 → z.toInt = 0) → (¬ (zz_pq (zz_kp K) e).1 1 = 0 → z.toInt = zz_rm ((zz_pq (zz_kp K) e).1 0) ((zz_pq (zz_kp K) e).1 1)) → T (zj_X11_reflects_157 rec a (nI (e + 1)) z) := by
            intro z z0 z1
            unfold zj_X11_reflects_157
            refine zT_gi zc_c1 (by omega) ?_
            rw [za_pos zc_c1]
            refine zT_if (fun cc => k183 _ ?_) (fun cc => k183 _ ?_)
            · rw [zb_le, hp1] at cc
              have cc : (zz_pq (zz_kp K) e).1 1 ≤ 0 := cc
              unfold zz_rc
              by_cases cp : (zz_pq (zz_kp K) e).1 1 = 0
              · rw [if_pos cp]; exact z0 cp
              · rw [if_neg cp, if_pos cc]; exact z1 cp
            · rw [zb_le, hp1] at cc
              have cc : ¬ (zz_pq (zz_kp K) e).1 1 ≤ 0 := cc
              have cp : ¬ (zz_pq (zz_kp K) e).1 1 = 0 := by omega
              have hs0 : ¬ zz_size ((zz_pq (zz_kp K) e).1 1) = 0 := fun z => cp (zz_size_0.mp z)
              have hsb := zz_size_b ((zz_pq (zz_kp K) e).1 1)
              have hm := zz_rm_b (p0 := (zz_pq (zz_kp K) e).1 0) (p1 := (zz_pq (zz_kp K) e).1 1) (by omega)
              rw [zb_neg (z1 cp) (by omega)]
              unfold zz_rc; rw [if_neg cp, if_neg cc]
          refine zT_if (fun c9 => ?_) (fun c9 => ?_)
          · rw [zb_eq, e7, hs] at c9
            have cp := zz_size_0.mp (show zz_size ((zz_pq (zz_kp K) e).1 1) = 0 from c9)
            unfold zj_X11_reflects_138
            exact zT_ift (by decide) (k157 _ (fun _ => by decide) (fun z => absurd cp z))
          · rw [zb_eq, e7, hs] at c9
            have cp : ¬ (zz_pq (zz_kp K) e).1 1 = 0 := fun z => c9 (by rw [zz_size_0.mpr z]; rfl)
            have hsb := zz_size_b ((zz_pq (zz_kp K) e).1 1)
            have hs0 : ¬ zz_size ((zz_pq (zz_kp K) e).1 1) = 0 := fun z => cp (zz_size_0.mp z)
            refine zT_gi zc_c0 (by omega) (zT_nl (fun z => ?_) ?_)
            · rw [zb_eq, hp0] at z
              have z : (zz_pq (zz_kp K) e).1 0 = 0 := z
              omega
            · have qd : ((v7 * (32768 : Int64)) / (a.2 54 0)).toInt = zz_size ((zz_pq (zz_kp K) e).1 1) * 32768 / (zz_pq (zz_kp K) e).1 0 := zb_div (zb_mul (by rw [e7]; exact hs) (by decide) (by omega) (by omega)) hp0 (by omega) (by omega)
              unfold zj_X11_reflects_138
              refine zT_if (fun cc => ?_) (fun cc => ?_)
              · rw [zb_le, qd, show (32767 : Int64).toInt = 32767 by decide] at cc
                exact k157 _ (fun z => absurd z cp) (fun _ => by rw [qd]; unfold zz_rm; rw [if_pos cc])
              · rw [zb_le, qd, show (32767 : Int64).toInt = 32767 by decide] at cc
                exact k157 _ (fun z => absurd z cp) (fun _ => by unfold zz_rm; rw [if_neg cc]; decide)
        · rw [zb_le, e7, hs, hp0] at c7
          have hok1 : zz_ok (zz_kp K) (e + 1) = false := by simp only [zz_ok]; rw [decide_eq_false c7, Bool.and_false]
          refine hT _ ⟨hF, fun t ht => ?_⟩
          by_cases ct : t < e
          · exact hr t ct
          · rw [hz t (by omega) ht]; unfold zz_rj; rw [zz_ok_f hok1 (t + 1) (by omega)]; rfl
/-! |K(k)| is at most K(0) -/
theorem zz_sum_add (g : Nat → Int) (k : Nat) : ∀ n, zz_sum g (k + n) = zz_sum g k + zz_sum (fun t => g (k + t)) n := by
  intro n
  induction n with
  | zero => simp [zz_sum]
  | succ n ih => rw [← Nat.add_assoc]; simp only [zz_sum]; rw [ih]; omega
theorem zz_sum_0 {g : Nat → Int} (hg : ∀ t, 0 ≤ g t) : ∀ n, 0 ≤ zz_sum g n := by
  intro n
  induction n with
  | zero => exact Int.le_refl _
  | succ n ih => simp only [zz_sum]; have := hg n; omega
theorem zz_sq2 (a b : Int) : -(a * a + b * b) ≤ 2 * (a * b) ∧ 2 * (a * b) ≤ a * a + b * b := by
  have sq : ∀ x : Int, 0 ≤ x * x := fun x => by
    by_cases h : 0 ≤ x
    · exact Int.mul_nonneg h h
    · have := Int.mul_nonneg (a := -x) (b := -x) (by omega) (by omega)
      rw [Int.neg_mul_neg] at this; exact this
  have h1 := sq (a - b)
  have h2 := sq (a + b)
  rw [Int.sub_mul, Int.mul_sub, Int.mul_sub, Int.mul_comm b a] at h1
  rw [Int.add_mul, Int.mul_add, Int.mul_add, Int.mul_comm b a] at h2
  omega
theorem zz_K_b (y : Nat → Int) (k : Nat) : -(zz_K y 0) ≤ zz_K y k ∧ zz_K y k ≤ zz_K y 0 := by
  have sq : ∀ t : Nat, 0 ≤ y t * y t := fun t => by have := zz_sq2 (y t) (y t); omega
  have e0 : zz_K y 0 = 2 * zz_sum (fun t => y t * y t) 160 := by
    unfold zz_K; rw [zz_sum_c 160 (fun t _ => by rw [Nat.zero_add])]
  have key : ∀ n : Nat, -(zz_sum (fun t => y (k + t) * y (k + t)) n + zz_sum (fun t => y t * y t) n) ≤ 2 * zz_sum (fun t => y (k + t) * y t) n ∧ 2 * zz_sum (fun t => y (k + t) * y t) n ≤ zz_sum (fun t => y (k + t) * y (k + t)) n + zz_sum (fun t => y t * y t) n := by
    intro n
    induction n with
    | zero => simp [zz_sum]
    | succ n ih =>
      simp only [zz_sum]
      have := zz_sq2 (y (k + n)) (y n)
      omega
  have h1 := key (160 - k)
  by_cases c : k ≤ 160
  · have a1 := zz_sum_add (fun t => y t * y t) k (160 - k)
    have a2 := zz_sum_add (fun t => y t * y t) (160 - k) k
    rw [show k + (160 - k) = 160 by omega] at a1
    rw [show 160 - k + k = 160 by omega] at a2
    have p1 := zz_sum_0 sq k
    have p2 := zz_sum_0 (fun t => sq (160 - k + t)) k
    have p3 : zz_sum (fun t => (fun t => y t * y t) (k + t)) (160 - k) = zz_sum (fun t => y (k + t) * y (k + t)) (160 - k) := rfl
    have p4 : zz_sum (fun t => (fun t => y t * y t) (160 - k + t)) k = zz_sum (fun t => y (160 - k + t) * y (160 - k + t)) k := rfl
    rw [e0]
    unfold zz_K
    rw [p3] at a1; rw [p4] at a2
    omega
  · rw [e0]
    have p1 := zz_sum_0 sq 160
    unfold zz_K
    rw [show 160 - k = 0 by omega, show zz_sum (fun t => y (k + t) * y t) 0 = 0 from rfl]
    omega
theorem zz_K_0 {y : Nat → Int} (h : ∀ t, t < 160 → -2048 ≤ y t ∧ y t ≤ 2048) : zz_K y 0 < 2147483648 := by
  have := zz_sum_b (f := fun t => y (0 + t) * y t) (B := 4194304) 160 (fun t ht => by
    have h1 := h (0 + t) (by omega)
    have h2 := h t ht
    exact zn_mul (A := 2048) (B := 2048) h1.1 h1.2 h2.1 h2.2)
  unfold zz_K
  rw [show 160 - 0 = 160 from rfl]
  omega
