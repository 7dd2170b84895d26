theorem za_ofNat {n : Nat} (h : n < 2147483648) : (Int32.ofNat n).toInt = n := nI_toInt h
/-- Arrays.fill -/
theorem zp_fillI (k0 n0 : Nat) (S : zs_T) (a1 : Int32) (hn : n0 < 600) : zQ (fun S1 => zF (fun k1 j => k1 = k0 ∧ j < n0) zF_0 S S1 ∧ ∀ t, t < n0 → (S1.1 k0 t).toInt = a1.toInt) (zf_J7_fill_53178 k0 n0 S a1) := by
  refine zQ.of (fun T hT => ?_)
  unfold zf_J7_fill_53178
  refine zT_lt (fun v1 e1 => zT_b1 (zQ_mapI _ n0 k0 (fun t => t) (fun j => j < n0) (fun _ => a1.toInt) S (fun s t _ _ h => h) (fun t h => h) hn ?_ ?_) (fun S4 h4 => hT S4 h4))
  · intro i Sc hi hF hU hW rec T hT
    have ei : (nI i).toInt = i := za_nI (by omega)
    unfold zb_J7_fill_53178_5
    refine zT_iff (by rw [za_le, e1, za_ofNat (by omega), ei]; omega) (zT_gi ei hi (zT_lt (fun S2 e2 => zT_lt (fun v3 e3 => ?_))))
    rw [e3, zc_1, e2, za_pos ei]
    exact hT a1 rfl
  · intro S1 hF rec T hT
    unfold zb_J7_fill_53178_5
    exact zT_ift (by rw [e1]; exact Int32.le_refl _) hT
/-- the reflection of a correlation -/
def zz_kp (K : Nat → Int) (k : Nat) : Int := K k * 2 ^ (zz_norm (K 0)) / 65536
def zz_refl (K : Nat → Int) (t : Nat) : Int := if K 0 = 0 then 0 else zz_rj (zz_kp K) t
theorem zz_kp_b {K : Nat → Int} (h1 : 1 ≤ K 0) (h0 : K 0 < 2147483648) (hb : ∀ k, -(K 0) ≤ K k ∧ K k ≤ K 0) (k : Nat) : (-2147483647 ≤ K k * 2 ^ (zz_norm (K 0)) ∧ K k * 2 ^ (zz_norm (K 0)) ≤ 2147483647) ∧ -32768 ≤ zz_kp K k ∧ zz_kp K k ≤ 32767 := by
  obtain ⟨g1, g2, g3, -⟩ := zz_norm_s h1 h0
  have hp : (0 : Int) ≤ 2 ^ (zz_norm (K 0)) := Int.le_of_lt (Int.pow_pos (by omega))
  have m1 := Int.mul_le_mul_of_nonneg_right (hb k).1 hp
  have m2 := Int.mul_le_mul_of_nonneg_right (hb k).2 hp
  rw [Int.neg_mul] at m1
  unfold zz_kp
  omega
theorem zp_reflect (S : zs_T) {K : Nat → Int} (hK : ∀ t, t < 9 → (S.1 11 t).toInt = K t) (hb : ∀ k, -(K 0) ≤ K k ∧ K k ≤ K 0) (h0 : K 0 < 2147483648) :
    zQ (fun S1 => zF (fun k1 j => (k1 = 14 ∧ j < 8) ∨ ((k1 = 12 ∨ k1 = 13) ∧ j < 9)) zF_0 S S1 ∧ ∀ t, t < 8 → (S1.1 14 t).toInt = zz_refl K t) (zf_X6_reflect S) := by
  refine zQ.of (fun T hT => ?_)
  unfold zf_X6_reflect
  refine zT_b1 (zp_fillI 14 8 S (0 : Int32) (by omega)) (fun S1 h1 => zT_gi zc_c0 (by omega) ?_)
  rw [za_pos zc_c0]
  have hK1 : ∀ t, t < 9 → (S1.1 11 t).toInt = K t := fun t ht => by rw [h1.1.1 11 t (by omega)]; exact hK t ht
  have fr1 : zF (fun k1 j => (k1 = 14 ∧ j < 8) ∨ ((k1 = 12 ∨ k1 = 13) ∧ j < 9)) zF_0 S S1 := h1.1.mo (fun k j h => Or.inl h) (fun _ _ h => h)
  refine zT_if (fun c => ?_) (fun c => ?_)
  · rw [za_eq, hK1 0 (by omega)] at c
    have c : K 0 = 0 := c
    exact hT S1 ⟨fr1, fun t ht => by rw [h1.2 t ht]; unfold zz_refl; rw [if_pos c]; rfl⟩
  · rw [za_eq, hK1 0 (by omega)] at c
    have c : ¬ K 0 = 0 := c
    have hK0 : 1 ≤ K 0 := by have := hb 0; omega
    have hkb := zz_kp_b hK0 h0 hb
    obtain ⟨g1, g2, g3, -⟩ := zz_norm_s hK0 h0
    refine zT_gi zc_c0 (by omega) (zT_b1 (zp_norm (hK1 0 (by omega)) hK0) (fun v2 h2 => ?_))
    have ev2 : v2.toInt = (zz_norm (K 0) : Nat) := by rw [h2]; exact za_nI (by omega)
    refine zT_b1 (zQ_mapII _ 9 12 13 (by decide) (zz_kp K) (zz_kp K) S1 (by omega) ?_ ?_) (fun S6 h6 => ?_)
    · intro i Sc hi hF hU hW rec T hT
      have ei : (nI i).toInt = i := za_nI (by omega)
      have hi1 := hkb i
      have ek : (Sc.1 11 i).toInt = K i := by rw [hF.1 11 i (by omega)]; exact hK1 i hi
      unfold zb_X6_reflect_30
      refine zT_iff (by rw [za_lt, ei, show (8 : Int32).toInt = 8 by decide]; omega) (zT_gi ei (by omega) (zT_gi ei (by omega) ?_))
      rw [za_pos ei]
      refine zT_lt (fun S3 e3 => zT_gi ei (by omega) (zT_gi ei (by omega) (zT_lt (fun S4 e4 => zT_lt (fun v5 e5 => ?_)))))
      have e7 := za_sr (n := 16) 16 65536 (za_shl ek ev2 (by omega) (by omega) (by omega)) (by decide) (by decide) (by decide)
      rw [e5, zc_1, e4, e3, zs_ii]
      exact hT _ _ e7 e7
    · intro S1 hF rec T hT
      unfold zb_X6_reflect_30
      exact zT_ift (by decide) hT
    · have fr6 : zF (fun k1 j => (k1 = 14 ∧ j < 8) ∨ ((k1 = 12 ∨ k1 = 13) ∧ j < 9)) zF_0 S S6 := fr1.tr (h6.1.mo (fun k j h => Or.inr h) (fun _ _ h => h))
      have r6 : ∀ t, t < 8 → (S6.1 14 t).toInt = 0 := fun t ht => by rw [h6.1.1 14 t (by omega)]; exact h1.2 t ht
      have np : ∀ t, -32768 ≤ zz_kp K t ∧ zz_kp K t ≤ 32767 := fun t => (hkb t).2
      refine zT_s1 (P := fun S1 => zF (fun k1 j => (k1 = 14 ∧ j < 8) ∨ ((k1 = 12 ∨ k1 = 13) ∧ j < 9)) zF_0 S S1 ∧ ∀ t, t < 8 → (S1.1 14 t).toInt = zz_rj (zz_kp K) t) (Q := fun S1 => zF (fun k1 j => (k1 = 14 ∧ j < 8) ∨ ((k1 = 12 ∨ k1 = 13) ∧ j < 9)) zF_0 S S1 ∧ ∀ t, t < 8 → (S1.1 14 t).toInt = zz_rj (zz_kp K) t) ?_ (fun S7 h7 => hT S7 ⟨h7.1, fun t ht => by unfold zz_refl; rw [if_neg c]; exact h7.2 t ht⟩) (fun S7 h7 => hT S7 ⟨h7.1, fun t ht => by unfold zz_refl; rw [if_neg c]; exact h7.2 t ht⟩)
      refine zQ_wh2 _ 8 (fun e a c => c = nI (e + 1) ∧ e ≤ 8 ∧ zz_ok (zz_kp K) e = true ∧ zF (fun k1 j => (k1 = 14 ∧ j < 8) ∨ ((k1 = 12 ∨ k1 = 13) ∧ j < 9)) zF_0 S a ∧ (∀ t, t ≤ 8 - e → (a.1 12 t).toInt = (zz_pq (zz_kp K) e).1 t) ∧ (∀ t, 1 ≤ t → t ≤ 8 - e → (a.1 13 t).toInt = (zz_pq (zz_kp K) e).2 t) ∧ (∀ t, t < e → (a.1 14 t).toInt = zz_rj (zz_kp K) t) ∧ (∀ t, e ≤ t → t < 8 → (a.1 14 t).toInt = 0)) _ ?_ 600 0 S6 (1 : Int32) (by omega) (by omega) ⟨rfl, by omega, rfl, fr6, fun t ht => h6.2.1 t (by omega), fun t h1 ht => h6.2.2 t (by omega), fun t ht => absurd ht (Nat.not_lt_zero t), fun t _ ht => r6 t ht⟩
      intro e a x hP rec T hT hR
      obtain ⟨ex, he, hok, hF, hp, hq, hr, hz⟩ := hP
      have ee : (nI (e + 1)).toInt = ((e + 1 : Nat) : Int) := za_nI (by omega)
      unfold zb_X6_reflect_73
      rw [ex]
      refine zT_if (fun c8 => ?_) (fun c8 => ?_)
      · rw [za_lt, ee, show (8 : Int32).toInt = 8 by decide] at c8
        have : e = 8 := by omega
        subst this
        exact hT _ ⟨hF, hr⟩
      · rw [za_lt, ee, show (8 : Int32).toInt = 8 by decide] at c8
        refine zT_gi zc_c0 (by omega) (zT_gi zc_c1 (by omega) ?_)
        rw [za_pos zc_c0, za_pos zc_c1]
        have hp0 := hp 0 (by omega)
        have hp1 := hp 1 (by omega)
        obtain ⟨nn1, nn2⟩ := zz_pq_num np e
        have n0 := nn1 0
        have n1 := nn1 1
        have hs := zp_size hp1 (by omega)
        refine zT_lt (fun v7 e7 => zT_if (fun c7 => ?_) (fun c7 => ?_))
        · rw [za_le, e7, hs, hp0] at c7
          refine zT_gi zc_c1 (by omega) (zT_gi zc_c0 (by omega) (zT_b1 (zp_reflection hp1 hp0 n1 c7 n0.2) (fun v8 h8 => ?_)))
          have ee1 : (nI (e + 1) - (1 : Int32)).toInt = (e : Int) := by have := za_sub ee (show (1 : Int32).toInt = 1 by decide) (by omega) (by omega); omega
          have hok1 : zz_ok (zz_kp K) (e + 1) = true := by simp only [zz_ok]; rw [hok, decide_eq_true c7]; rfl
          have hrj : zz_rj (zz_kp K) e = zz_rc ((zz_pq (zz_kp K) e).1 0) ((zz_pq (zz_kp K) e).1 1) := by unfold zz_rj; rw [if_pos hok1]
          have hrb := zz_rc_b c7 n1
          refine zT_gi ee1 (by omega) ?_
          rw [za_pos ee1]
          refine zT_lt (fun S9 e9 => zT_gi ee1 (by omega) (zT_b1 (zp_fold S9 (L := 7 - e) (a1 := nI (e + 1)) (a2 := S9.1 14 e) (r := zz_rc ((zz_pq (zz_kp K) e).1 0) ((zz_pq (zz_kp K) e).1 1)) (p := (zz_pq (zz_kp K) e).1) (q := (zz_pq (zz_kp K) e).2) (by omega) (by rw [ee]; omega) (by rw [e9, zs_ii]; exact h8) (by omega) (fun t ht => by rw [e9, zs_in _ _ (by omega)]; exact hp t (by omega)) (fun t t1 ht => by rw [e9, zs_in _ _ (by omega)]; exact hq t t1 (by omega)) nn1 nn2) (fun S10 h10 => zT_lt (fun v11 e11 => ?_))))
          rw [e11, zc_1]
          refine hR _ _ (by omega) ⟨rfl, by omega, hok1, ?_, fun t ht => h10.2.1 t (by omega), fun t t1 ht => h10.2.2 t t1 (by omega), fun t ht => ?_, fun t t1 ht => ?_⟩
          · exact (hF.tr (by rw [e9]; exact (zF.rf a).wi _ (Or.inl ⟨rfl, by omega⟩))).tr (h10.1.mo (fun k j h => Or.inr h) (fun _ _ h => h))
          · rw [h10.1.1 14 t (by omega), e9]
            by_cases ct : t = e
            · subst ct; rw [zs_ii, hrj]; exact h8
            · rw [zs_in _ _ (by omega)]; exact hr t (by omega)
          · rw [h10.1.1 14 t (by omega), e9, zs_in _ _ (by omega)]; exact hz t (by omega) ht
        · rw [za_le, e7, hs, hp0] at c7
          have hok1 : zz_ok (zz_kp K) (e + 1) = false := by simp only [zz_ok]; rw [decide_eq_false c7, Bool.and_false]
          refine hT _ ⟨hF, fun t ht => ?_⟩
          by_cases ct : t < e
          · exact hr t ct
          · rw [hz t (by omega) ht]; unfold zz_rj; rw [zz_ok_f hok1 (t + 1) (by omega)]; rfl
