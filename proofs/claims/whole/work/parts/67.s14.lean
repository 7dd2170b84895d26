/-! pulses: told and made again -/
theorem zz_x_tab : ∀ ss : Nat, ss < 7 → ∀ m : Nat, m < 16 → (1 ≤ ss → 8 ≤ m) → ((m : Int) + 1) * 2 ^ (ss + 5) * 2 ^ (zz_sh ((m + 8 * ss : Nat) : Int)) ≤ 32768 := by decide +kernel
theorem zz_x_sh {s : Int} (h0 : 0 ≤ s) (h1 : s ≤ 32767) : s * 2 ^ (zz_sh ((zz_ht s : Nat) : Int)) < 32768 := by
  obtain ⟨a1, a2, a3, a4⟩ := zz_ht_ok h0 h1
  have ht := zz_x_tab (zz_stp s 6) (by omega) (s / 2 ^ (zz_stp s 6 + 5)).toNat (by omega) (by omega)
  have e : ((s / 2 ^ (zz_stp s 6 + 5)).toNat + 8 * zz_stp s 6 : Nat) = zz_ht s := rfl
  rw [e] at ht
  have em : (((s / 2 ^ (zz_stp s 6 + 5)).toNat : Nat) : Int) = s / 2 ^ (zz_stp s 6 + 5) := by omega
  rw [em] at ht
  have hp : (0 : Int) < 2 ^ (zz_stp s 6 + 5) := Int.pow_pos (by omega)
  have hl := Int.lt_ediv_add_one_mul_self s hp
  have hp2 : (0 : Int) < 2 ^ (zz_sh ((zz_ht s : Nat) : Int)) := Int.pow_pos (by omega)
  have hm := Int.mul_lt_mul_of_pos_right hl hp2
  omega
theorem zz_sh_m : zz_sh ((zz_ht 32767 : Nat) : Int) = 0 := by decide +kernel
theorem zz_x_num {s x : Int} (h0 : 0 ≤ s) (h1 : s ≤ 32767) (hx : -32768 ≤ x ∧ x ≤ 32767) (hs : zz_size x ≤ s) : -32768 ≤ x * 2 ^ (zz_sh ((zz_ht s : Nat) : Int)) ∧ x * 2 ^ (zz_sh ((zz_ht s : Nat) : Int)) ≤ 32768 := by
  have hb := zz_x_sh h0 h1
  have hp2 : (0 : Int) ≤ 2 ^ (zz_sh ((zz_ht s : Nat) : Int)) := Int.le_of_lt (Int.pow_pos (by omega))
  rcases zz_size_i hx hs with h | h
  · have m1 := Int.mul_le_mul_of_nonneg_right h.1 hp2
    have m2 := Int.mul_le_mul_of_nonneg_right h.2 hp2
    rw [Int.neg_mul] at m1
    omega
  · have : s = 32767 := by omega
    subst this
    rw [zz_sh_m]; simp; omega
def zz_Rt (i : Nat) : Int := (zt_v11 i).toInt
def zz_Ft (i : Nat) : Int := (zt_v12 i).toInt
theorem zz_Rt_b : ∀ i, i < 8 → 16384 ≤ zz_Rt i ∧ zz_Rt i ≤ 29128 := by decide
theorem zz_Ft_b : ∀ i, i < 8 → 18431 ≤ zz_Ft i ∧ zz_Ft i ≤ 32767 := by decide
theorem zq_tR : ∀ i, i < 8 → (zf_X11_tableR (nI i)).toInt = zz_Rt i := by decide
theorem zq_tF : ∀ i, i < 8 → (zf_X11_tableF (nI i)).toInt = zz_Ft i := by decide
def zz_td (h : Nat) (x : Int) : Int := zz_L (x * 2 ^ (zz_sh (h : Int))) (zz_Rt (zz_sp (h : Int))) / 4096 + 4
theorem zz_td_b (h : Nat) (x : Int) : -4 ≤ zz_td h x ∧ zz_td h x ≤ 11 := by have := zz_L_b (x * 2 ^ (zz_sh (h : Int))) (zz_Rt (zz_sp (h : Int))); unfold zz_td; omega
theorem zp_told (k0 : Nat) (S : zs_T) {a1 : Int32} {h : Nat} {x : Int} (hh : h < 64) (h1 : (S.1 k0 1).toInt = ((zz_sh (h : Int) : Nat) : Int)) (h2 : (S.1 k0 2).toInt = ((zz_sp (h : Int) : Nat) : Int)) (hx : a1.toInt = x) (nx : -32768 ≤ x * 2 ^ (zz_sh (h : Int)) ∧ x * 2 ^ (zz_sh (h : Int)) ≤ 32768) :
    zQ (fun o => o.toInt = zz_td h x) (zf_X7_told k0 S a1) := by
  obtain ⟨b1, b2, b3, b4⟩ := zz_en_b h hh
  have hR := zz_Rt_b (zz_sp (h : Int)) b4
  have hm := zn_mul (a := x * 2 ^ (zz_sh (h : Int))) (b := zz_Rt (zz_sp (h : Int))) (A := 32768) (B := 29128) (by omega) (by omega) (by omega) (by omega)
  have hL := zz_L_b (x * 2 ^ (zz_sh (h : Int))) (zz_Rt (zz_sp (h : Int)))
  refine zQ.of (fun T hT => ?_)
  unfold zf_X7_told
  refine zT_gi h2 b4 ?_
  rw [za_pos h2]
  refine zT_lt (fun v1 e1 => hT _ ?_)
  have q1 : v1.toInt = zz_L (x * 2 ^ (zz_sh (h : Int))) (zz_Rt (zz_sp (h : Int))) := by rw [e1]; exact zp_floored (y := zz_Rt (zz_sp (h : Int))) (za_shl hx h1 (by omega) (by omega) (by omega)) rfl (by omega) (by omega)
  exact za_add (za_sr (n := 12) 12 4096 q1 (by decide) (by decide) (by decide)) (by decide) (by omega) (by omega)
def zz_half (k : Nat) : Int := if k = 0 then 0 else 2 ^ (k - 1)
def zz_md (h : Nat) (p : Int) : Int := zz_cut (zz_M (zz_Ft (zz_sp (h : Int))) ((2 * p - 7) * 4096) + zz_half (zz_sh (h : Int))) / 2 ^ (zz_sh (h : Int))
theorem zz_half_b : ∀ k, k < 11 → 0 ≤ zz_half k ∧ zz_half k ≤ 512 := by decide
theorem zz_p10 : ∀ k, k < 11 → 1 ≤ (2 : Int) ^ k ∧ (2 : Int) ^ k ≤ 1024 := by decide
theorem zz_div_num {v p : Int} (hv : -32768 ≤ v ∧ v ≤ 32767) (hp : 1 ≤ p) : -32768 ≤ v / p ∧ v / p ≤ 32767 := by
  refine ⟨?_, ?_⟩
  · exact Int.le_ediv_of_mul_le (by omega) (by omega)
  · have : v / p < 32768 := Int.ediv_lt_of_lt_mul (by omega) (by omega)
    omega
theorem zz_md_b {h : Nat} (hh : h < 64) (p : Int) : -32768 ≤ zz_md h p ∧ zz_md h p ≤ 32767 := by
  obtain ⟨b1, b2, b3, b4⟩ := zz_en_b h hh
  exact zz_div_num (zz_cut_b _) (zz_p10 _ (by omega)).1
theorem zp_rounded2 {a b : Int32} {x y : Int} (ha : a.toInt = x) (hb : b.toInt = y) (h1 : -2147483648 ≤ x * y) (h2 : x * y ≤ 2147467263) : (zf_X4_rounded a b).toInt = zz_M x y := by
  have e := za_mul ha hb (by omega) (by omega)
  have e1 : (a * b + (16384 : Int32)).toInt = x * y + 16384 := za_add e (by decide : (16384 : Int32).toInt = 16384) (by omega) (by omega)
  have e2 := za_sr (n := 15) 15 32768 e1 (by decide) (by decide) (by decide)
  unfold zf_X4_rounded zc_lt
  exact zp_cut e2
theorem zp_made (k0 : Nat) (S : zs_T) {a1 : Int32} {h : Nat} {p : Int} (hh : h < 64) (h1 : (S.1 k0 1).toInt = ((zz_sh (h : Int) : Nat) : Int)) (h2 : (S.1 k0 2).toInt = ((zz_sp (h : Int) : Nat) : Int)) (hp : a1.toInt = p) (np : -4 ≤ p ∧ p ≤ 11) :
    zQ (fun o => o.toInt = zz_md h p) (zf_X7_made k0 S a1) := by
  obtain ⟨b1, b2, b3, b4⟩ := zz_en_b h hh
  have hF := zz_Ft_b (zz_sp (h : Int)) b4
  have hhb := zz_half_b (zz_sh (h : Int)) (by omega)
  have hM := zz_M_b (zz_Ft (zz_sp (h : Int))) ((2 * p - 7) * 4096)
  have hm := zn_mul (a := zz_Ft (zz_sp (h : Int))) (b := (2 * p - 7) * 4096) (A := 32767) (B := 61440) (by omega) (by omega) (by omega) (by omega)
  refine zQ.of (fun T hT => ?_)
  have k19 : ∀ z : Int32, z.toInt = zz_half (zz_sh (h : Int)) → T (zj_X7_made_19 k0 S a1 z) := by
    intro z hz
    unfold zj_X7_made_19
    refine zT_gi h2 b4 ?_
    rw [za_pos h2]
    refine zT_lt (fun v1 e1 => zT_lt (fun v2 e2 => hT _ ?_))
    have q1 : v1.toInt = zz_M (zz_Ft (zz_sp (h : Int))) ((2 * p - 7) * 4096) := by rw [e1]; exact zp_rounded2 (x := zz_Ft (zz_sp (h : Int))) rfl (za_mul (za_sub (za_mul (by decide) hp (by omega) (by omega)) (by decide) (by omega) (by omega)) (by decide) (by omega) (by omega)) (by omega) (by omega)
    have q2 : v2.toInt = zz_cut (zz_M (zz_Ft (zz_sp (h : Int))) ((2 * p - 7) * 4096) + zz_half (zz_sh (h : Int))) := by rw [e2]; exact zp_cut (za_add q1 hz (by omega) (by omega))
    exact za_shr q2 h1 (by omega)
  unfold zf_X7_made
  refine zT_if (fun c => k19 _ ?_) (fun c => k19 _ ?_)
  · rw [za_eq, h1, show (0 : Int32).toInt = 0 by decide] at c
    unfold zz_half; rw [if_pos (by omega)]; decide
  · rw [za_eq, h1, show (0 : Int32).toInt = 0 by decide] at c
    have e1 : (S.1 k0 1 - (1 : Int32)).toInt = ((zz_sh (h : Int) - 1 : Nat) : Int) := by have := za_sub h1 (show (1 : Int32).toInt = 1 by decide) (by omega) (by omega); omega
    have hp10 := zz_p10 (zz_sh (h : Int) - 1) (by omega)
    rw [za_shl (show (1 : Int32).toInt = 1 by decide) e1 (by omega) (by omega) (by omega)]
    unfold zz_half; rw [if_neg (by omega), Int.one_mul]
def zz_row (g h : Nat) (p : Nat → Int) (t : Nat) : Int := if g ≤ t ∧ (t - g) % 3 = 0 ∧ (t - g) / 3 < 13 then zz_md h (p ((t - g) / 3)) else 0
theorem zz_row_b {g h : Nat} (hh : h < 64) (p : Nat → Int) (t : Nat) : -32768 ≤ zz_row g h p t ∧ zz_row g h p t ≤ 32767 := by
  unfold zz_row; split
  · exact zz_md_b hh _
  · omega
theorem zp_makeAgain (k1 k2 : Nat) (h3 : k1 ≠ 3) (h4 : k2 ≠ 3) (h12 : k1 ≠ k2) (S : zs_T) {a1 : Int32} {q g h : Nat} (h1 : a1.toInt = q) (hq : q + 17 ≤ 76) (hg : (S.1 3 (q + 2)).toInt = (g : Int)) (ng : g < 4) (hh : (S.1 3 (q + 3)).toInt = (h : Int)) (nh : h < 64) {p : Nat → Int} (hp : ∀ i, i < 13 → (S.1 3 (q + 4 + i)).toInt = p i) (np : ∀ i, i < 13 → -4 ≤ p i ∧ p i ≤ 11) :
    zQ (fun S1 => zF (fun k j => (k = k1 ∧ (j = 1 ∨ j = 2)) ∨ (k = k2 ∧ j < 40)) zF_0 S S1 ∧ ∀ t, t < 40 → (S1.1 k2 t).toInt = zz_row g h p t) (zf_X7_makeAgain 3 k1 k2 S a1) := by
  have e2 : (a1 + (2 : Int32)).toInt = ((q + 2 : Nat) : Int) := by have := za_add h1 (show (2 : Int32).toInt = 2 by decide) (by omega) (by omega); omega
  have e3 : (a1 + (3 : Int32)).toInt = ((q + 3 : Nat) : Int) := by have := za_add h1 (show (3 : Int32).toInt = 3 by decide) (by omega) (by omega); omega
  refine zQ.of (fun T hT => ?_)
  unfold zf_X7_makeAgain
  refine zT_gi e2 (by omega) ?_
  rw [za_pos e2]
  refine zT_lt (fun v1 q1 => zT_gi e3 (by omega) ?_)
  rw [za_pos e3]
  have w1 : v1.toInt = (g : Int) := by rw [q1]; exact hg
  refine zT_b1 (zp_scaleBy k1 S hh nh) (fun S2 h2 => zT_b1 (zp_fillI k2 40 S2 (0 : Int32) (by omega)) (fun S3 hS3 => ?_))
  have c1 : (S3.1 k1 1).toInt = ((zz_sh (h : Int) : Nat) : Int) := by rw [hS3.1.1 k1 1 (by omega)]; exact h2.2.1
  have c2 : (S3.1 k1 2).toInt = ((zz_sp (h : Int) : Nat) : Int) := by rw [hS3.1.1 k1 2 (by omega)]; exact h2.2.2
  have c3 : ∀ i, i < 13 → (S3.1 3 (q + 4 + i)).toInt = p i := fun i hi => by rw [hS3.1.1 3 _ (by omega), h2.1.1 3 _ (by omega)]; exact hp i hi
  refine zT_b1 (zQ_mapI _ 13 k2 (fun t => g + 3 * t) (fun j => j < 40 ∧ g ≤ j ∧ (j - g) % 3 = 0 ∧ (j - g) / 3 < 13) (fun t => zz_md h (p t)) S3 (fun s t _ _ h => by omega) (fun t h => by omega) (by omega) ?_ ?_) (fun S7 h7 => hT _ ⟨?_, fun t ht => ?_⟩)
  · intro i Sc hi hF hU hW rec T hT
    have ei : (nI i).toInt = i := za_nI (by omega)
    have e4 : (a1 + (4 : Int32) + nI i).toInt = ((q + 4 + i : Nat) : Int) := by have := za_add (za_add h1 (show (4 : Int32).toInt = 4 by decide) (by omega) (by omega)) ei (by omega) (by omega); omega
    have e5 : (v1 + (3 : Int32) * nI i).toInt = ((g + 3 * i : Nat) : Int) := by have := za_add w1 (za_mul (show (3 : Int32).toInt = 3 by decide) ei (by omega) (by omega)) (by omega) (by omega); omega
    unfold zb_X7_makeAgain_26
    refine zT_iff (by rw [za_le, ei, show (13 : Int32).toInt = 13 by decide]; omega) (zT_gi e4 (by omega) ?_)
    rw [za_pos e4]
    refine zT_b1 (zp_made k1 Sc nh (by rw [hF.1 k1 1 (by omega)]; exact c1) (by rw [hF.1 k1 2 (by omega)]; exact c2) (by rw [hF.1 3 _ (by omega)]; exact c3 i hi) (np i hi)) (fun v4 h4 => zT_gi e5 (by omega) ?_)
    rw [za_pos e5]
    refine zT_lt (fun S5 e5 => zT_lt (fun v6 e6 => ?_))
    rw [e6, zc_1, e5]
    exact hT _ h4
  · intro S1 hF rec T hT
    unfold zb_X7_makeAgain_26
    exact zT_ift (by decide) hT
  · exact ((h2.1.mo (fun k j h => by omega) (fun _ _ h => h)).tr (hS3.1.mo (fun k j h => by omega) (fun _ _ h => h))).tr (h7.1.mo (fun k j h => by omega) (fun _ _ h => h))
  · unfold zz_row
    by_cases c : g ≤ t ∧ (t - g) % 3 = 0 ∧ (t - g) / 3 < 13
    · rw [if_pos c]
      have := h7.2 ((t - g) / 3) c.2.2
      rw [show g + 3 * ((t - g) / 3) = t by omega] at this
      exact this
    · rw [if_neg c, h7.1.1 k2 t (fun z => c ⟨z.2.2.1, z.2.2.2.1, z.2.2.2.2⟩)]; exact hS3.2 t ht
theorem zq_makes (S : zs_T) {a1 : Int32} {n g h : Nat} (h1 : a1.toInt = n) (hn : n < 4) (hg : (S.1 43 (10 + 17 * n)).toInt = (g : Int)) (ng : g < 4) (hh : (S.1 43 (11 + 17 * n)).toInt = (h : Int)) (nh : h < 64) {p : Nat → Int} (hp : ∀ i, i < 13 → (S.1 43 (12 + 17 * n + i)).toInt = p i) (np : ∀ i, i < 13 → -4 ≤ p i ∧ p i ≤ 11) :
    zQ (fun S1 => zF (fun k j => k = 40 ∧ (j = 28 ∨ j = 29)) (fun k j => k = 58 ∧ j < 40) S S1 ∧ ∀ t, t < 40 → (S1.2 58 t).toInt = zz_row g h p t) (zf_X11_makes S a1) := by
  obtain ⟨b1, b2, b3, b4⟩ := zz_en_b h nh
  have hF8 := zz_Ft_b (zz_sp (h : Int)) b4
  have hhb := zz_half_b (zz_sh (h : Int)) (by omega)
  have e17 := za_mul (show (17 : Int32).toInt = 17 by decide) h1 (by omega) (by omega)
  refine zQ.of (fun T hT => ?_)
  unfold zf_X11_makes
  refine zT_lt (fun v1 q1 => ?_)
  have w1 : v1.toInt = ((10 + 17 * n : Nat) : Int) := by rw [q1]; have := za_add (show (10 : Int32).toInt = 10 by decide) e17 (by omega) (by omega); omega
  have e11 : (v1 + (1 : Int32)).toInt = ((11 + 17 * n : Nat) : Int) := by have := za_add w1 (show (1 : Int32).toInt = 1 by decide) (by omega) (by omega); omega
  refine zT_gi e11 (by omega) ?_
  rw [za_pos e11]
  refine zT_b1 (zq_ofHeight S hh nh) (fun S2 h2 => zT_lt (fun v3 e3 => ?_))
  have w3 : v3.toInt = ((zz_sh (h : Int) : Nat) : Int) := by rw [e3, za_sub (show (6 : Int32).toInt = 6 by decide) h2.2.1 (by omega) (by omega)]; omega
  refine zT_b1 (zQ_mapL _ 40 58 (fun t => t) (fun j => j < 40) (fun _ => 0) S2 (fun s t _ _ h => h) (fun t h => h) (by omega) ?_ ?_) (fun S6 h6 => ?_)
  · intro i Sc hi hF hU hW rec T hT
    have ei : (nI i).toInt = i := za_nI (by omega)
    unfold zb_X11_makes_31
    refine zT_iff (by rw [za_le, ei, show (40 : Int32).toInt = 40 by decide]; omega) (zT_gi ei hi (zT_lt (fun S4 e4 => zT_lt (fun v5 e5 => ?_))))
    rw [e5, zc_1, e4, za_pos ei]
    exact hT _ (by decide)
  · intro S1 hF rec T hT
    unfold zb_X11_makes_31
    exact zT_ift (by decide) hT
  · have c2 : S6.1 40 29 = nI (zz_sp (h : Int)) := za_of (by rw [h6.1.1 40 29 (fun z => z)]; exact h2.2.2)
    have c3 : ∀ i, i < 13 → (S6.1 43 (12 + 17 * n + i)).toInt = p i := fun i hi => by rw [h6.1.1 43 _ (fun z => z), h2.1.1 43 _ (by omega)]; exact hp i hi
    have c4 : (S6.1 43 (10 + 17 * n)).toInt = (g : Int) := by rw [h6.1.1 43 _ (fun z => z), h2.1.1 43 _ (by omega)]; exact hg
    refine zT_b1 (zQ_mapL _ 13 58 (fun t => g + 3 * t) (fun j => j < 40 ∧ g ≤ j ∧ (j - g) % 3 = 0 ∧ (j - g) / 3 < 13) (fun t => zz_md h (p t)) S6 (fun s t _ _ h => by omega) (fun t h => by omega) (by omega) ?_ ?_) (fun S7 h7 => hT _ ⟨?_, fun t ht => ?_⟩)
    · intro i Sc hi hF hU hW rec T hT
      have ei : (nI i).toInt = i := za_nI (by omega)
      have e4 : (v1 + (2 : Int32) + nI i).toInt = ((12 + 17 * n + i : Nat) : Int) := by have := za_add (za_add w1 (show (2 : Int32).toInt = 2 by decide) (by omega) (by omega)) ei (by omega) (by omega); omega
      have c5 : (Sc.1 43 (10 + 17 * n)).toInt = (g : Int) := by rw [hF.1 43 _ (fun z => z)]; exact c4
      have e5 : (Sc.1 43 (10 + 17 * n) + (3 : Int32) * nI i).toInt = ((g + 3 * i : Nat) : Int) := by have := za_add c5 (za_mul (show (3 : Int32).toInt = 3 by decide) ei (by omega) (by omega)) (by omega) (by omega); omega
      have npi := np i hi
      have hM := zz_M_b (zz_Ft (zz_sp (h : Int))) ((2 * p i - 7) * 4096)
      unfold zb_X11_makes_55
      refine zT_iff (by rw [za_le, ei, show (13 : Int32).toInt = 13 by decide]; omega) (zT_lt (fun v7 e7 => zT_gi e4 (by omega) ?_))
      rw [za_pos e4]
      refine zT_lt (fun v8 e8 => zT_gi w1 (by omega) ?_)
      rw [za_pos w1]
      have y8 : v8.toInt = zz_M (zz_Ft (zz_sp (h : Int))) ((2 * p i - 7) * 4096) := by
        rw [e8, e7, hF.1 40 29 (fun z => z), c2]
        exact zq_rounded (zb_i2l (zq_tF _ b4)) (zb_mul (zb_sub (zb_mul (by decide) (zb_i2l (by rw [hF.1 43 _ (fun z => z)]; exact c3 i hi)) (by omega) (by omega)) (by decide) (by omega) (by omega)) (by decide) (by omega) (by omega)) (by omega) (by omega) (by omega) (by omega)
      have k129 : ∀ z : Int64, z.toInt = zz_half (zz_sh (h : Int)) → T (zj_X11_makes_129 rec Sc v1 v3 (nI i) z v8 (Sc.1 43 (10 + 17 * n) + (3 : Int32) * nI i)) := by
        intro z hz
        unfold zj_X11_makes_129
        refine zT_lt (fun v9 e9 => zT_gi e5 (by omega) ?_)
        rw [za_pos e5]
        refine zT_lt (fun S10 e10 => zT_lt (fun v11 e11 => ?_))
        rw [e11, zc_1, e10]
        have y9 : v9.toInt = zz_cut (zz_M (zz_Ft (zz_sp (h : Int))) ((2 * p i - 7) * 4096) + zz_half (zz_sh (h : Int))) := by rw [e9]; exact zq_cut (zb_add y8 hz (by omega) (by omega))
        exact hT _ (zb_shr y9 w3 (by omega))
      refine zT_if (fun c => k129 _ ?_) (fun c => k129 _ ?_)
      · rw [za_eq, w3, show (0 : Int32).toInt = 0 by decide] at c
        unfold zz_half; rw [if_pos (by omega)]; decide
      · rw [za_eq, w3, show (0 : Int32).toInt = 0 by decide] at c
        have e1 : (v3 - (1 : Int32)).toInt = ((zz_sh (h : Int) - 1 : Nat) : Int) := by have := za_sub w3 (show (1 : Int32).toInt = 1 by decide) (by omega) (by omega); omega
        have hp10 := zz_p10 (zz_sh (h : Int) - 1) (by omega)
        rw [zb_shl (show (1 : Int64).toInt = 1 by decide) e1 (by omega) (by omega) (by omega)]
        unfold zz_half; rw [if_neg (by omega), Int.one_mul]
    · intro S1 hF rec T hT
      unfold zb_X11_makes_55
      exact zT_ift (by decide) hT
    · exact ((h2.1.mo (fun k j h => h) (fun _ _ h => absurd h (fun z => z))).tr (h6.1.mo (fun k j h => absurd h (fun z => z)) (fun k j h => h))).tr (h7.1.mo (fun k j h => absurd h (fun z => z)) (fun k j h => ⟨h.1, h.2.1⟩))
    · unfold zz_row
      by_cases c : g ≤ t ∧ (t - g) % 3 = 0 ∧ (t - g) / 3 < 13
      · rw [if_pos c]
        have := h7.2 ((t - g) / 3) c.2.2
        rw [show g + 3 * ((t - g) / 3) = t by omega] at this
        exact this
      · rw [if_neg c, h7.1.2 58 t (fun z => c ⟨z.2.2.1, z.2.2.2.1, z.2.2.2.2⟩)]; exact h6.2 t ht
theorem zp_add (k0 k1 k2 : Nat) (h02 : k0 ≠ k2) (h12 : k1 ≠ k2) (S : zs_T) {a1 : Int32} {p : Nat} (h1 : a1.toInt = p) (hp : p < 4) {r w : Nat → Int} (hr : ∀ t, t < 40 → (S.1 k0 t).toInt = r t) (nr : ∀ t, t < 40 → -32768 ≤ r t ∧ r t ≤ 32767) (hw : ∀ t, t < 40 → (S.1 k1 t).toInt = w t) (nw : ∀ t, t < 40 → -32768 ≤ w t ∧ w t ≤ 32767) :
    zQ (fun S1 => zF (fun k j => k = k2 ∧ 120 + 40 * p ≤ j ∧ j < 160 + 40 * p) zF_0 S S1 ∧ ∀ t, t < 40 → (S1.1 k2 (120 + 40 * p + t)).toInt = zz_cut (r t + w t)) (zf_X5_add k0 k1 k2 S a1) := by
  have e40 := za_mul (show (40 : Int32).toInt = 40 by decide) h1 (by omega) (by omega)
  unfold zf_X5_add
  refine zQ.of (fun T hT => zT_b1 (zQ_mapI _ 40 k2 (fun t => 120 + 40 * p + t) (fun j => 120 + 40 * p ≤ j ∧ j < 160 + 40 * p) (fun t => zz_cut (r t + w t)) S (fun s t _ _ h => by omega) (fun t h => by omega) (by omega) ?_ ?_) (fun S1 h1 => hT S1 h1))
  · intro i Sc hi hF hU hW rec T hT
    have ei : (nI i).toInt = i := za_nI (by omega)
    have nri := nr i hi
    have nwi := nw i hi
    unfold zb_X5_add_2
    refine zT_iff (by rw [za_le, ei, show (40 : Int32).toInt = 40 by decide]; omega) (zT_lt (fun v1 e1 => zT_gi ei hi (zT_gi ei hi ?_)))
    rw [za_pos ei]
    have q1 : (v1 + nI i).toInt = ((120 + 40 * p + i : Nat) : Int) := by
      rw [e1]; unfold zf_X5_from
      have := za_add (za_add (show (120 : Int32).toInt = 120 by decide) e40 (by omega) (by omega)) ei (by omega) (by omega); omega
    refine zT_lt (fun v2 e2 => zT_gi q1 (by omega) ?_)
    rw [za_pos q1]
    refine zT_lt (fun S3 e3 => zT_lt (fun v4 e4 => ?_))
    rw [e4, zc_1, e3]
    refine hT _ ?_
    rw [e2]
    exact zp_cut (za_add (by rw [hF.1 k0 _ (fun z => h02 z.1)]; exact hr i hi) (by rw [hF.1 k1 _ (fun z => h12 z.1)]; exact hw i hi) (by omega) (by omega))
  · intro S1 hF rec T hT
    unfold zb_X5_add_2
    exact zT_ift (by decide) hT
theorem zq_enc181 (S : zs_T) {f2 : Int32} {p : Nat} (hp : p < 4) (h2 : f2.toInt = ((120 + 40 * p : Nat) : Int)) {r w : Nat → Int} (hr : ∀ t, t < 40 → (S.2 58 t).toInt = r t) (nr : ∀ t, t < 40 → -32768 ≤ r t ∧ r t ≤ 32767) (hw : ∀ t, t < 40 → (S.2 48 (120 + 40 * p + t)).toInt = w t) (nw : ∀ t, t < 40 → -32768 ≤ w t ∧ w t ≤ 32767) :
    zQ (fun S1 => zF zF_0 (fun k j => k = 48 ∧ 120 + 40 * p ≤ j ∧ j < 160 + 40 * p) S S1 ∧ ∀ t, t < 40 → (S1.2 48 (120 + 40 * p + t)).toInt = zz_cut (r t + w t)) (zl_2 (zb_X11_encode_181 f2) 600 S (0 : Int32)) := by
  refine zQ_mapL _ 40 48 (fun t => 120 + 40 * p + t) (fun j => 120 + 40 * p ≤ j ∧ j < 160 + 40 * p) (fun t => zz_cut (r t + w t)) S (fun s t _ _ h => by omega) (fun t h => by omega) (by omega) ?_ ?_
  · intro i Sc hi hF hU hW rec T hT
    have ei : (nI i).toInt = i := za_nI (by omega)
    have nri := nr i hi
    have nwi := nw i hi
    have q1 : (f2 + nI i).toInt = ((120 + 40 * p + i : Nat) : Int) := by have := za_add h2 ei (by omega) (by omega); omega
    unfold zb_X11_encode_181
    refine zT_iff (by rw [za_le, ei, show (40 : Int32).toInt = 40 by decide]; omega) (zT_gi q1 (by omega) (zT_gi ei hi ?_))
    rw [za_pos ei, za_pos q1]
    refine zT_lt (fun v2 e2 => zT_gi q1 (by omega) (zT_lt (fun S3 e3 => zT_lt (fun v4 e4 => ?_))))
    rw [e4, zc_1, e3]
    refine hT _ ?_
    have x1 : (Sc.2 48 (120 + 40 * p + i)).toInt = w i := by rw [hU i (Nat.le_refl _) hi]; exact hw i hi
    have x2 : (Sc.2 58 i).toInt = r i := by rw [hF.2 58 _ (by omega)]; exact hr i hi
    rw [e2, zq_cut (zb_add x1 x2 (by omega) (by omega)), Int.add_comm]
  · intro S1 hF rec T hT
    unfold zb_X11_encode_181
    exact zT_ift (by decide) hT
