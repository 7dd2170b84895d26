/-! the reference's look back -/
theorem zz_sum_m2 (g : Nat → Int) : ∀ n, zz_sum (fun t => 2 * g t) n = 2 * zz_sum g n := by
  intro n
  induction n with
  | zero => rfl
  | succ n ih => simp only [zz_sum]; rw [ih]; omega
theorem zq_like (S : zs_T) {f1 f2 f5 f9 : Int32} {p q n f : Nat} (h1 : f1.toInt = p) (hp : p < 4) (h2 : f2.toInt = q) (hq : q ≤ 240) (h5 : f5.toInt = f) (hf : f ≤ 6) (h9 : f9.toInt = n) (hn1 : 40 ≤ n) (hn2 : n ≤ 120) (hqn : 120 ≤ q) {d c : Nat → Int} (hd : ∀ t, t < 40 → (S.2 50 (40 * p + t)).toInt = d t) (nl : ∀ t, t < 40 → -512 ≤ d t / 2 ^ f ∧ d t / 2 ^ f ≤ 512) (hc : ∀ t, t < q → (S.2 48 t).toInt = c t) (nc : ∀ t, t < q → -32768 ≤ c t ∧ c t ≤ 32767) :
    zQ (fun o => o.toInt = zz_like (fun t => d t / 2 ^ f) c (q - n)) (zl_2 (zb_X11_looksBack_74 S f1 f2 f5 f9) 600 (0 : Int64) (0 : Int32)) := by
  refine zQ_sumL _ 0 40 (fun t => d t / 2 ^ f * c (q - n + t)) (by omega) (by omega) ?_ ?_ (0 : Int64) rfl
  · intro i a _ hi ha rec T hT
    rw [Nat.sub_zero] at ha hT
    have ei : (nI i).toInt = i := za_nI (by omega)
    have e40 := za_mul (show (40 : Int32).toInt = 40 by decide) h1 (by omega) (by omega)
    have eq : ((40 : Int32) * f1 + nI i).toInt = ((40 * p + i : Nat) : Int) := by have := za_add e40 ei (by omega) (by omega); omega
    have ec : (f2 + nI i - f9).toInt = ((q - n + i : Nat) : Int) := by have := za_sub (za_add h2 ei (by omega) (by omega)) h9 (by omega) (by omega); omega
    have n1 := nl i hi
    have n2 := nc (q - n + i) (by omega)
    have hm := zn_mul (A := 512) (B := 32768) n1.1 n1.2 n2.1 (by omega)
    have hs := zz_like_s (l := fun t => d t / 2 ^ f) (c := c) (q := q - n) nl (fun t ht => nc _ (by omega)) i (by omega)
    have el := zb_shr (hd i hi) h5 (by omega)
    unfold zb_X11_looksBack_74
    refine zT_iff (by rw [za_le, ei, show (40 : Int32).toInt = 40 by decide]; omega) (zT_gi eq (by omega) (zT_gi ec (by omega) ?_))
    rw [za_pos eq, za_pos ec]
    refine zT_lt (fun v1 e1 => zT_lt (fun v2 e2 => ?_))
    rw [e2, zc_1]
    refine hT _ ?_
    rw [e1, zb_add ha (zb_mul el (hc _ (by omega)) (by omega) (by omega)) (by omega) (by omega)]
  · intro a rec T hT
    unfold zb_X11_looksBack_74
    exact zT_ift (by decide) hT
theorem zq_power (S : zs_T) {f2 f6 : Int32} {q n : Nat} (h2 : f2.toInt = q) (hq : q ≤ 240) (h6 : f6.toInt = n) (hn1 : 40 ≤ n) (hn2 : n ≤ 120) (hqn : 120 ≤ q) {c : Nat → Int} (hc : ∀ t, t < q → (S.2 48 t).toInt = c t) (nc : ∀ t, t < q → -32768 ≤ c t ∧ c t ≤ 32767) :
    zQ (fun o => o.toInt = zz_pw2 c (q - n)) (zl_2 (zb_X11_looksBack_162 S f2 f6) 600 (0 : Int64) (0 : Int32)) := by
  have nc2 : ∀ t, t < 40 → -32768 ≤ c (q - n + t) ∧ c (q - n + t) ≤ 32767 := fun t ht => nc _ (by omega)
  refine (zQ_sumL _ 0 40 (fun t => 2 * (c (q - n + t) / 8 * (c (q - n + t) / 8))) (by omega) (by omega) ?_ ?_ (0 : Int64) rfl).mo (fun o ho => by rw [ho]; exact zz_sum_m2 _ 40)
  · intro i a _ hi ha rec T hT
    rw [Nat.sub_zero] at ha hT
    have ei : (nI i).toInt = i := za_nI (by omega)
    have ec : (f2 + nI i - f6).toInt = ((q - n + i : Nat) : Int) := by have := za_sub (za_add h2 ei (by omega) (by omega)) h6 (by omega) (by omega); omega
    have n2 := nc2 i hi
    have hm := zn_mul (a := 2 * (c (q - n + i) / 8)) (b := c (q - n + i) / 8) (A := 8192) (B := 4096) (by omega) (by omega) (by omega) (by omega)
    have hs := zz_pw2_s nc2 i (by omega)
    have e2 := zz_sum_m2 (fun t => c (q - n + t) / 8 * (c (q - n + t) / 8)) i
    have e8 := zb_sr (n := 3) 3 8 (hc (q - n + i) (by omega)) (by decide) (by decide) (by decide)
    have ee : 2 * (c (q - n + i) / 8) * (c (q - n + i) / 8) = 2 * (c (q - n + i) / 8 * (c (q - n + i) / 8)) := Int.mul_assoc _ _ _
    unfold zb_X11_looksBack_162
    refine zT_iff (by rw [za_le, ei, show (40 : Int32).toInt = 40 by decide]; omega) (zT_gi ec (by omega) (zT_gi ec (by omega) ?_))
    rw [za_pos ec]
    refine zT_lt (fun v1 e1 => zT_lt (fun v2 e3 => ?_))
    rw [e3, zc_1]
    refine hT _ ?_
    rw [e1, zb_add ha (zb_mul (zb_mul (show (2 : Int64).toInt = 2 by decide) e8 (by omega) (by omega)) e8 (by omega) (by omega)) (by rw [e2]; omega) (by rw [e2]; omega), ee]
  · intro a rec T hT
    unfold zb_X11_looksBack_162
    exact zT_ift (by decide) hT
theorem zq_gl (S : zs_T) {f9 f11 : Int64} {f14 : Int32} {t v : Int} (h9 : f9.toInt = t) (h11 : f11.toInt = v) (h14 : f14 = nI (zz_norm v)) (ht : 0 < t) (htv : t < v) (hv : v < 2147483648) :
    zQ (fun o => o.toInt = ((zz_gain t v : Nat) : Int)) (zl_1 (zb_X11_looksBack_247 S f9 f11 f14) 600 (0 : Int32)) := by
  obtain ⟨g1, g2, g3, -⟩ := zz_norm_s (a := v) (by omega) hv
  have ev1 : f14.toInt = ((zz_norm v : Nat) : Int) := by rw [h14]; exact za_nI (by omega)
  have hp : (0 : Int) ≤ 2 ^ (zz_norm v) := Int.le_of_lt (Int.pow_pos (by omega))
  have m1 := Int.mul_le_mul_of_nonneg_right (show t ≤ v by omega) hp
  have m2 := Int.mul_nonneg (show 0 ≤ t by omega) hp
  have q2 := zb_sr (n := 16) 16 65536 (zb_shl h9 ev1 (by omega) (by omega) (by omega)) (by decide) (by decide) (by decide)
  have q3 := zb_sr (n := 16) 16 65536 (zb_shl h11 ev1 (by omega) (by omega) (by omega)) (by decide) (by decide) (by decide)
  have hg : zz_gain t v = zz_gl (t * 2 ^ (zz_norm v) / 65536) (v * 2 ^ (zz_norm v) / 65536) := by unfold zz_gain; rw [if_neg (by omega), if_neg (by omega)]
  refine zQ_wh1 _ 3 (fun i a => a = nI i ∧ i ≤ 3 ∧ ∀ s, s < i → ¬ t * 2 ^ (zz_norm v) / 65536 ≤ zz_L (v * 2 ^ (zz_norm v) / 65536) (zz_D s)) _ ?_ 600 0 (0 : Int32) (by omega) (by omega) ⟨rfl, by omega, fun s hs => absurd hs (Nat.not_lt_zero s)⟩
  intro i a hP rec T hT hR
  obtain ⟨ea, hi, hno⟩ := hP
  have ei : (nI i).toInt = i := za_nI (by omega)
  unfold zb_X11_looksBack_247
  rw [ea]
  refine zT_if (fun c3 => hT _ ?_) (fun c3 => ?_)
  · rw [za_le, ei, show (3 : Int32).toInt = 3 by decide] at c3
    have : i = 3 := by omega
    subst this
    rw [hg, zz_gl_at hno (Nat.le_refl _) (Or.inl rfl), ei]
  · rw [za_le, ei, show (3 : Int32).toInt = 3 by decide] at c3
    have hi3 : i < 3 := by omega
    have hD := zz_D_b i hi3
    have eL : (zf_X11_lower ((f11 <<< (Int32.toInt64 f14 &&& 63)) >>> (Int32.toInt64 (16 : Int32) &&& 63)) (Int32.toInt64 (zf_X11_tableD (nI i)))).toInt = zz_L (v * 2 ^ (zz_norm v) / 65536) (zz_D i) := zq_lower q3 (zb_i2l (zq_tD i hi3)) (by omega) (by omega) (by omega) (by omega)
    refine zT_lt (fun v16 e16 => zT_lt (fun v17 e17 => zT_if (fun c5 => hT _ ?_) (fun c5 => zT_lt (fun v5 e5 => hR _ hi3 ⟨?_, by omega, ?_⟩))))
    · rw [zb_le, e17, e16, eL, q2] at c5
      rw [hg, zz_gl_at hno (by omega) (Or.inr c5), ei]
    · rw [e5, zc_1]
    · rw [zb_le, e17, e16, eL, q2] at c5
      intro s hs
      by_cases cs : s = i
      · subst cs; exact c5
      · exact hno s (by omega)
theorem zq_looksBack (S : zs_T) {a1 a2 : Int32} {p : Nat} (h1 : a1.toInt = p) (hp : p < 4) (h2 : a2.toInt = ((120 + 40 * p : Nat) : Int)) {d c : Nat → Int} (hd : ∀ t, t < 40 → (S.2 50 (40 * p + t)).toInt = d t) (nd : ∀ t, t < 40 → -32768 ≤ d t ∧ d t ≤ 32767) (hc : ∀ t, t < 120 + 40 * p → (S.2 48 t).toInt = c t) (nc : ∀ t, t < 120 + 40 * p → -32768 ≤ c t ∧ c t ≤ 32767) :
    zQ (fun S1 => zF (fun k j => k = 43 ∧ (j = 8 + 17 * p ∨ j = 9 + 17 * p)) zF_0 S S1 ∧ (S1.1 43 (8 + 17 * p)).toInt = ((zz_back d c (120 + 40 * p) : Nat) : Int) ∧ (S1.1 43 (9 + 17 * p)).toInt = ((zz_gn d c (120 + 40 * p) : Nat) : Int)) (zf_X11_looksBack S a1 a2) := by
  have hf6 : zz_fd d ≤ 6 := zz_f6_b _
  have hbk := zz_back_b nd nc (show 120 ≤ 120 + 40 * p by omega)
  have e17 := za_mul (show (17 : Int32).toInt = 17 by decide) h1 (by omega) (by omega)
  have e8 : ((8 : Int32) + (17 : Int32) * a1).toInt = ((8 + 17 * p : Nat) : Int) := by have := za_add (show (8 : Int32).toInt = 8 by decide) e17 (by omega) (by omega); omega
  have e9 : ((9 : Int32) + (17 : Int32) * a1).toInt = ((9 + 17 * p : Nat) : Int) := by have := za_add (show (9 : Int32).toInt = 9 by decide) e17 (by omega) (by omega); omega
  have hbs := (zz_bs_b (L := zz_lk d c (120 + 40 * p)) 81 (fun t ht => (zz_lk_b nd nc (by omega) (by omega) (by omega)).2)).1
  have hpw := zz_pw2_s (c := c) (q := 120 + 40 * p - zz_back d c (120 + 40 * p)) (fun t ht => nc _ (by omega)) 40 (Nat.le_refl _)
  refine zQ.of (fun T hT => ?_)
  have k288 : ∀ y g : Int32, y.toInt = ((zz_back d c (120 + 40 * p) : Nat) : Int) → g.toInt = ((zz_gn d c (120 + 40 * p) : Nat) : Int) → T (zj_X11_looksBack_288 S a1 y g) := by
    intro y g hy hg
    unfold zj_X11_looksBack_288
    refine zT_gi e8 (by omega) ?_
    rw [za_pos e8]
    refine zT_lt (fun S13 e13 => zT_gi e9 (by omega) ?_)
    rw [za_pos e9]
    refine zT_lt (fun S14 e14 => hT _ ⟨?_, ?_, ?_⟩)
    · rw [e14, e13]; exact ((zF.rf S).wi _ ⟨rfl, Or.inl rfl⟩).wi _ ⟨rfl, Or.inr rfl⟩
    · rw [e14, zs_in _ _ (by omega), e13, zs_ii]; exact hy
    · rw [e14, zs_ii]; exact hg
  have k48 : ∀ z : Int32, z.toInt = ((zz_fd d : Nat) : Int) → T (zj_X11_looksBack_48 S a1 a2 z) := by
    intro z hz
    unfold zj_X11_looksBack_48
    refine zT_b2 (P := fun o => o.1.toInt = ((zz_back d c (120 + 40 * p) : Nat) : Int) ∧ o.2.toInt = (zz_bs (zz_lk d c (120 + 40 * p)) 81).1) (zQ_for3 _ 121 (fun n b m => ∃ i, n = 40 + i ∧ b.toInt = (((zz_bs (zz_lk d c (120 + 40 * p)) i).2 : Nat) : Int) ∧ m.toInt = (zz_bs (zz_lk d c (120 + 40 * p)) i).1) _ ?_ ?_ 600 40 (40 : Int32) (0 : Int64) (by omega) (by omega) ⟨0, rfl, rfl, rfl⟩) (fun v7 v8 h7 => ?_)
    · intro n b m hn hP rec T hT
      obtain ⟨i, ein, hb2, hb1⟩ := hP
      subst ein
      have en : (nI (40 + i)).toInt = ((40 + i : Nat) : Int) := za_nI (by omega)
      unfold zb_X11_looksBack_61
      refine zT_iff (by rw [za_le, en, show (121 : Int32).toInt = 121 by decide]; omega) (zT_b1 (zq_like S h1 hp h2 (by omega) hz hf6 en (by omega) (by omega) (by omega) hd (fun t ht => zz_low_b nd ht) hc nc) (fun v5 h5 => zT_if (fun cc => zT_lt (fun v6 e6 => ?_)) (fun cc => zT_lt (fun v8 e8 => ?_))))
      · rw [zb_le, h5, hb1] at cc
        have es : zz_bs (zz_lk d c (120 + 40 * p)) (i + 1) = zz_bs (zz_lk d c (120 + 40 * p)) i := by simp only [zz_bs]; rw [if_neg (by unfold zz_lk; unfold zz_lk at cc; omega)]
        rw [e6, zc_1]
        exact hT _ _ ⟨i + 1, rfl, by rw [es]; exact hb2, by rw [es]; exact hb1⟩
      · rw [zb_le, h5, hb1] at cc
        have es : zz_bs (zz_lk d c (120 + 40 * p)) (i + 1) = (zz_lk d c (120 + 40 * p) (40 + i), 40 + i) := by simp only [zz_bs]; rw [if_pos (by unfold zz_lk; unfold zz_lk at cc; omega)]
        rw [e8, zc_1]
        exact hT _ _ ⟨i + 1, rfl, by rw [es]; exact en, by rw [es]; exact h5⟩
    · intro b m hP rec T hT
      obtain ⟨i, ein, hb2, hb1⟩ := hP
      have : i = 81 := by omega
      subst this
      unfold zb_X11_looksBack_61
      exact zT_ift (by decide) (hT _ ⟨hb2, hb1⟩)
    · dsimp only at h7
      obtain ⟨u1, u2⟩ := h7
      have e6 : ((6 : Int32) - z).toInt = ((6 - zz_fd d : Nat) : Int) := by have := za_sub (show (6 : Int32).toInt = 6 by decide) hz (by omega) (by omega); omega
      have et := zb_shr (zb_mul (show (2 : Int64).toInt = 2 by decide) u2 (by omega) (by omega)) e6 (by omega)
      have hp6 := zz_p6 (6 - zz_fd d) (by omega)
      have ht0 : 0 ≤ 2 * (zz_bs (zz_lk d c (120 + 40 * p)) 81).1 / 2 ^ (6 - zz_fd d) := Int.ediv_nonneg (by omega) (by omega)
      refine zT_lt (fun v9 e9 => zT_b1 (zq_power S h2 (by omega) u1 hbk.1 hbk.2 (by omega) hc nc) (fun v12 h12 => ?_))
      have q9 : v9.toInt = 2 * (zz_bs (zz_lk d c (120 + 40 * p)) 81).1 / 2 ^ (6 - zz_fd d) := by rw [e9]; exact et
      refine zT_if (fun c0 => k288 _ _ u1 ?_) (fun c0 => zT_if (fun c1 => k288 _ _ u1 ?_) (fun c1 => ?_))
      · rw [zb_eq, q9, show (0 : Int64).toInt = 0 by decide] at c0
        unfold zz_gn zz_gain; rw [if_pos c0]; rfl
      · rw [zb_eq, q9, show (0 : Int64).toInt = 0 by decide] at c0
        rw [zb_le, h12, q9] at c1
        unfold zz_gn zz_gain; rw [if_neg c0, if_pos c1]; rfl
      · rw [zb_eq, q9, show (0 : Int64).toInt = 0 by decide] at c0
        rw [zb_le, h12, q9] at c1
        have hvb : zz_pw2 c (120 + 40 * p - zz_back d c (120 + 40 * p)) < 2147483648 := by unfold zz_pw2; omega
        refine zT_b1 (zq_norm h12 (by omega) hvb) (fun v15 h15 => zT_b1 (zq_gl S q9 h12 h15 (by omega) (by omega) hvb) (fun v19 h19 => k288 _ _ u1 h19))
  have hb := zz_max_sz (x := d) 40
  have e40 : ((40 : Int32) * a1).toInt = ((40 * p : Nat) : Int) := by have := za_mul (show (40 : Int32).toInt = 40 by decide) h1 (by omega) (by omega); omega
  unfold zf_X11_looksBack zj_X11_looksBack_33
  refine zT_b1 (zq_great 50 S (q := 40 * p) (n := 40) e40 (by decide) (by omega) hd nd) (fun v1 e1 => zT_if (fun c0 => k48 _ ?_) (fun c0 => ?_))
  · rw [zb_eq, e1, show (0 : Int64).toInt = 0 by decide] at c0
    unfold zz_fd zz_f6; rw [if_pos c0]; rfl
  · rw [zb_eq, e1, show (0 : Int64).toInt = 0 by decide] at c0
    have esl := zb_mul e1 (show (65536 : Int64).toInt = 65536 by decide) (by omega) (by omega)
    obtain ⟨-, -, g3, -⟩ := zz_norm_s (a := zz_max (fun t => zz_size (d t)) 40 * 65536) (by omega) (by omega)
    have hfd : zz_fd d = 6 - zz_norm (zz_max (fun t => zz_size (d t)) 40 * 65536) := by unfold zz_fd zz_f6; rw [if_neg c0]
    refine zT_b1 (zq_norm esl (by omega) (by omega)) (fun v20 h20 => ?_)
    have e20 : v20.toInt = ((zz_norm (zz_max (fun t => zz_size (d t)) 40 * 65536) : Nat) : Int) := by rw [h20]; exact za_nI (by omega)
    refine zT_if (fun c6 => zT_b1 (zq_norm esl (by omega) (by omega)) (fun v21 h21 => k48 _ ?_)) (fun c6 => k48 _ ?_)
    · rw [za_le, e20, show (6 : Int32).toInt = 6 by decide] at c6
      have e21 : v21.toInt = ((zz_norm (zz_max (fun t => zz_size (d t)) 40 * 65536) : Nat) : Int) := by rw [h21]; exact za_nI (by omega)
      rw [za_sub (show (6 : Int32).toInt = 6 by decide) e21 (by omega) (by omega), hfd]; omega
    · rw [za_le, e20, show (6 : Int32).toInt = 6 by decide] at c6
      rw [hfd, show (0 : Int32).toInt = 0 by decide]; omega
