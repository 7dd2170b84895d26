/-! the look back -/
def zz_f6 (a : Int) : Nat := if a = 0 then 0 else 6 - zz_norm (a * 65536)
def zz_fd (d : Nat → Int) : Nat := zz_f6 (zz_max (fun t => zz_size (d t)) 40)
theorem zz_f6_b (a : Int) : zz_f6 a ≤ 6 := by unfold zz_f6; split <;> omega
theorem zz_p6 : ∀ n, n < 7 → 1 ≤ (2 : Int) ^ n ∧ (2 : Int) ^ n ≤ 64 := by decide
theorem zz_low_b {d : Nat → Int} (hd : ∀ t, t < 40 → -32768 ≤ d t ∧ d t ≤ 32767) {t : Nat} (ht : t < 40) : -512 ≤ d t / 2 ^ (zz_fd d) ∧ d t / 2 ^ (zz_fd d) ≤ 512 := by
  have hb := zz_max_sz (x := d) 40
  have hg := zz_max_ge (fun t => zz_size (d t)) 40 t ht
  unfold zz_fd
  generalize zz_max (fun t => zz_size (d t)) 40 = a at *
  have hs := zz_size_i (hd t ht) hg
  unfold zz_f6
  by_cases c : a = 0
  · rw [if_pos c]; simp; omega
  · rw [if_neg c]
    obtain ⟨g1, g2, g3, -⟩ := zz_norm_s (a := a * 65536) (by omega) (by omega)
    generalize zz_norm (a * 65536) = n at *
    by_cases c4 : n < 7
    · rcases (show n = 0 ∨ n = 1 ∨ n = 2 ∨ n = 3 ∨ n = 4 ∨ n = 5 ∨ n = 6 by omega) with e | e | e | e | e | e | e <;> subst e <;> simp at g1 g2 ⊢ <;> omega
    · obtain ⟨m, e⟩ : ∃ m, n = 7 + m := ⟨n - 7, by omega⟩
      subst e
      have e2 : a * 65536 * 2 ^ (7 + m) = a * 8388608 * 2 ^ m := by
        rw [Int.pow_add, ← Int.mul_assoc]; congr 1; rw [Int.mul_assoc]; rfl
      have h1 : (1 : Int) ≤ 2 ^ m := Int.pow_pos (by omega)
      have h2 : a * 8388608 * 1 ≤ a * 8388608 * 2 ^ m := Int.mul_le_mul_of_nonneg_left h1 (by omega)
      rw [show 6 - (7 + m) = 0 by omega]
      simp; omega
def zz_like (l c : Nat → Int) (q : Nat) : Int := zz_sum (fun t => l t * c (q + t)) 40
theorem zz_like_s {l c : Nat → Int} {q : Nat} (hl : ∀ t, t < 40 → -512 ≤ l t ∧ l t ≤ 512) (hc : ∀ t, t < 40 → -32768 ≤ c (q + t) ∧ c (q + t) ≤ 32767) : ∀ n, n ≤ 40 → -671088640 ≤ zz_sum (fun t => l t * c (q + t)) n ∧ zz_sum (fun t => l t * c (q + t)) n ≤ 671088640 := by
  intro n hn
  have := zz_sum_b (f := fun t => l t * c (q + t)) (B := 16777216) n (fun t ht => by
    have h1 := hl t (by omega)
    have h2 := hc t (by omega)
    exact zn_mul (A := 512) (B := 32768) h1.1 h1.2 h2.1 (by omega))
  omega
theorem zz_like_b {l c : Nat → Int} {q : Nat} (hl : ∀ t, t < 40 → -512 ≤ l t ∧ l t ≤ 512) (hc : ∀ t, t < 40 → -32768 ≤ c (q + t) ∧ c (q + t) ≤ 32767) : -671088640 ≤ zz_like l c q ∧ zz_like l c q ≤ 671088640 := zz_like_s hl hc 40 (Nat.le_refl _)
def zz_bs (L : Nat → Int) : Nat → Int × Nat
  | 0 => (0, 40)
  | i + 1 => if (zz_bs L i).1 < L (40 + i) then (L (40 + i), 40 + i) else zz_bs L i
theorem zz_bs_b {L : Nat → Int} : ∀ i, (∀ t, t < i → L (40 + t) ≤ 671088640) → (0 ≤ (zz_bs L i).1 ∧ (zz_bs L i).1 ≤ 671088640) ∧ 40 ≤ (zz_bs L i).2 ∧ ((zz_bs L i).2 < 40 + i ∨ (zz_bs L i).2 = 40) := by
  intro i
  induction i with
  | zero => intro _; exact ⟨⟨Int.le_refl 0, show (0 : Int) ≤ 671088640 by decide⟩, Nat.le_refl 40, Or.inr rfl⟩
  | succ i ih =>
    intro h
    have h1 := ih (fun t ht => h t (by omega))
    have h2 := h i (by omega)
    simp only [zz_bs]
    split
    · exact ⟨⟨by omega, h2⟩, by omega, Or.inl (by omega)⟩
    · exact ⟨h1.1, h1.2.1, by omega⟩
def zz_pw2 (c : Nat → Int) (q : Nat) : Int := 2 * zz_sum (fun t => c (q + t) / 8 * (c (q + t) / 8)) 40
theorem zz_pw2_s {c : Nat → Int} {q : Nat} (hc : ∀ t, t < 40 → -32768 ≤ c (q + t) ∧ c (q + t) ≤ 32767) : ∀ n, n ≤ 40 → 0 ≤ zz_sum (fun t => c (q + t) / 8 * (c (q + t) / 8)) n ∧ zz_sum (fun t => c (q + t) / 8 * (c (q + t) / 8)) n ≤ 671088640 := by
  intro n hn
  have := zz_sum_b (f := fun t => c (q + t) / 8 * (c (q + t) / 8)) (B := 16777216) n (fun t ht => by
    have h2 := hc t (by omega)
    exact zn_mul (A := 4096) (B := 4096) (by omega) (by omega) (by omega) (by omega))
  have := zz_sum_0 (g := fun t => c (q + t) / 8 * (c (q + t) / 8)) (fun t => by have := zz_sq2 (c (q + t) / 8) (c (q + t) / 8); omega) n
  omega
def zz_D (i : Nat) : Int := (zt_v9 i).toInt
theorem zz_D_b : ∀ i, i < 3 → 6554 ≤ zz_D i ∧ zz_D i ≤ 26214 := by decide
theorem zq_tD : ∀ i, i < 3 → (zf_X11_tableD (nI i)).toInt = zz_D i := by decide
def zz_gl (top whole : Int) : Nat := if top ≤ zz_L whole (zz_D 0) then 0 else if top ≤ zz_L whole (zz_D 1) then 1 else if top ≤ zz_L whole (zz_D 2) then 2 else 3
def zz_gain (t v : Int) : Nat := if t = 0 then 0 else if v ≤ t then 3 else zz_gl (t * 2 ^ (zz_norm v) / 65536) (v * 2 ^ (zz_norm v) / 65536)
theorem zz_gain_b (t v : Int) : zz_gain t v ≤ 3 := by unfold zz_gain zz_gl; split <;> (try split) <;> (try split) <;> (try split) <;> (try split) <;> omega
/-- the search's loop: the first i at which the test holds -/
theorem zz_gl_at {top whole : Int} {i : Nat} (h : ∀ t, t < i → ¬ top ≤ zz_L whole (zz_D t)) (hi : i ≤ 3) (hs : i = 3 ∨ top ≤ zz_L whole (zz_D i)) : zz_gl top whole = i := by
  unfold zz_gl
  rcases (show i = 0 ∨ i = 1 ∨ i = 2 ∨ i = 3 by omega) with e | e | e | e <;> subst e
  · rw [if_pos (by omega)]
  · rw [if_neg (h 0 (by omega)), if_pos (by omega)]
  · rw [if_neg (h 0 (by omega)), if_neg (h 1 (by omega)), if_pos (by omega)]
  · rw [if_neg (h 0 (by omega)), if_neg (h 1 (by omega)), if_neg (h 2 (by omega))]
/-! the class's -/
theorem zp_slower (S : zs_T) {a1 : Int32} {q : Nat} (h1 : a1.toInt = q) (hq : q + 40 ≤ 160) {d : Nat → Int} (hd : ∀ t, t < 40 → (S.1 6 (q + t)).toInt = d t) (nd : ∀ t, t < 40 → -32768 ≤ d t ∧ d t ≤ 32767) :
    zQ (fun o => o.1.toInt = ((zz_fd d : Nat) : Int) ∧ zF (fun k j => k = 23 ∧ j < 40) zF_0 S o.2 ∧ ∀ t, t < 40 → (o.2.1 23 t).toInt = d t / 2 ^ (zz_fd d)) (zf_X8_lower S a1) := by
  have hf6 : zz_fd d ≤ 6 := zz_f6_b _
  have key : ∀ z : Int32, z.toInt = ((zz_fd d : Nat) : Int) → zQ (fun o => o.1.toInt = ((zz_fd d : Nat) : Int) ∧ zF (fun k j => k = 23 ∧ j < 40) zF_0 S o.2 ∧ ∀ t, t < 40 → (o.2.1 23 t).toInt = d t / 2 ^ (zz_fd d)) (zj_X8_lower_43 S a1 z) := by
    intro z hz
    unfold zj_X8_lower_43
    refine zQ.of (fun T hT => zT_b1 (zQ_mapI _ 40 23 (fun t => t) (fun j => j < 40) (fun t => d t / 2 ^ (zz_fd d)) S (fun s t _ _ h => h) (fun t h => h) (by omega) ?_ ?_) (fun S5 h5 => hT _ ⟨hz, h5.1, h5.2⟩))
    · intro i Sc hi hF hU hW rec T hT
      have ei : (nI i).toInt = i := za_nI (by omega)
      have eq : (a1 + nI i).toInt = ((q + i : Nat) : Int) := by have := za_add h1 ei (by omega) (by omega); omega
      unfold zb_X8_lower_48
      refine zT_iff (by rw [za_le, ei, show (40 : Int32).toInt = 40 by decide]; omega) (zT_gi eq (by omega) (zT_gi ei hi ?_))
      rw [za_pos ei, za_pos eq]
      refine zT_lt (fun S3 e3 => zT_lt (fun v4 e4 => ?_))
      rw [e4, zc_1, e3]
      exact hT _ (za_shr (by rw [hF.1 6 (q + i) (by omega)]; exact hd i hi) hz (by omega))
    · intro S1 hF rec T hT
      unfold zb_X8_lower_48
      exact zT_ift (by decide) hT
  have hb := zz_max_sz (x := d) 40
  have k25 : ∀ z : Int32, ∀ n : Nat, z.toInt = n → n ≤ 30 → zz_fd d = 6 - n → zQ (fun o => o.1.toInt = ((zz_fd d : Nat) : Int) ∧ zF (fun k j => k = 23 ∧ j < 40) zF_0 S o.2 ∧ ∀ t, t < 40 → (o.2.1 23 t).toInt = d t / 2 ^ (zz_fd d)) (zj_X8_lower_25 S a1 z) := by
    intro z n hz hn hfd
    refine zQ.of (fun T hT => ?_)
    unfold zj_X8_lower_25
    refine zT_if (fun c => ?_) (fun c => ?_)
    · rw [za_le, hz, show (6 : Int32).toInt = 6 by decide] at c
      obtain ⟨r, e, hr⟩ := key ((6 : Int32) - z) (by rw [za_sub (show (6 : Int32).toInt = 6 by decide) hz (by omega) (by omega)]; omega)
      rw [e]; exact hT r hr
    · rw [za_le, hz, show (6 : Int32).toInt = 6 by decide] at c
      obtain ⟨r, e, hr⟩ := key (0 : Int32) (by rw [show (0 : Int32).toInt = 0 by decide]; omega)
      rw [e]; exact hT r hr
  unfold zf_X8_lower
  refine zQ.of (fun T hT => zT_b1 (zp_great 6 160 S (q := q) (d := 1) (n := 40) h1 (by decide) (by decide) (by omega) (by omega) (by omega) (fun t ht => by omega) (x := d) (fun t ht => by rw [Nat.one_mul]; exact hd t ht) nd) (fun v1 e1 => zT_if (fun c => ?_) (fun c => ?_)))
  · rw [za_eq, e1] at c
    have c0 : zz_max (fun t => zz_size (d t)) 40 = 0 := c
    obtain ⟨r, e, hr⟩ := k25 (6 : Int32) 6 (by decide) (by omega) (by unfold zz_fd zz_f6; rw [if_pos c0])
    rw [e]; exact hT r hr
  · rw [za_eq, e1] at c
    have c0 : ¬ zz_max (fun t => zz_size (d t)) 40 = 0 := c
    have esl := za_sl (n := 16) 16 65536 e1 (by decide) (by decide) (by decide) (by omega) (by omega)
    refine zT_b1 (zp_norm esl (by omega)) (fun v2 h2 => ?_)
    obtain ⟨-, -, g3, -⟩ := zz_norm_s (a := zz_max (fun t => zz_size (d t)) 40 * 65536) (by omega) (by omega)
    obtain ⟨r, e, hr⟩ := k25 v2 _ (by rw [h2]; exact za_nI (by omega)) g3 (by unfold zz_fd zz_f6; rw [if_neg c0])
    rw [e]; exact hT r hr
theorem zp_likeness (S : zs_T) {a1 : Int32} {q : Nat} (h1 : a1.toInt = q) (hq : q + 40 ≤ 280) {l c : Nat → Int} (hl : ∀ t, t < 40 → (S.1 23 t).toInt = l t) (nl : ∀ t, t < 40 → -512 ≤ l t ∧ l t ≤ 512) (hc : ∀ t, t < 40 → (S.1 20 (q + t)).toInt = c (q + t)) (nc : ∀ t, t < 40 → -32768 ≤ c (q + t) ∧ c (q + t) ≤ 32767) :
    zQ (fun o => o.toInt = zz_like l c q) (zf_X8_likeness S a1) := by
  unfold zf_X8_likeness
  refine zQ.of (fun T hT => zT_b1 (zQ_sumI _ 0 40 (fun t => l t * c (q + t)) (by omega) (by omega) ?_ ?_ (0 : Int32) rfl) (fun v3 h3 => hT v3 h3))
  · intro i a _ hi ha rec T hT
    rw [Nat.sub_zero] at ha hT
    have ei : (nI i).toInt = i := za_nI (by omega)
    have eq : (a1 + nI i).toInt = ((q + i : Nat) : Int) := by have := za_add h1 ei (by omega) (by omega); omega
    have n1 := nl i hi
    have n2 := nc i hi
    have hm := zn_mul (A := 512) (B := 32768) n1.1 n1.2 n2.1 (by omega)
    have hs := zz_like_s nl nc i (by omega)
    have hs1 := zz_like_s nl nc (i + 1) (by omega)
    simp only [zz_sum] at hs1
    unfold zb_X8_likeness_5
    refine zT_iff (by rw [za_le, ei, show (40 : Int32).toInt = 40 by decide]; omega) (zT_gi ei hi (zT_gi eq (by omega) ?_))
    rw [za_pos ei, za_pos eq]
    refine zT_lt (fun v1 e1 => zT_lt (fun v2 e2 => ?_))
    rw [e2, zc_1]
    refine hT _ ?_
    rw [e1, za_add ha (za_mul (hl i hi) (hc i hi) (by omega) (by omega)) (by omega) (by omega)]
  · intro a rec T hT
    unfold zb_X8_likeness_5
    exact zT_ift (by decide) hT
theorem zp_power (S : zs_T) {a1 : Int32} {q : Nat} (h1 : a1.toInt = q) (hq : q + 40 ≤ 280) {c : Nat → Int} (hc : ∀ t, t < 40 → (S.1 20 (q + t)).toInt = c (q + t)) (nc : ∀ t, t < 40 → -32768 ≤ c (q + t) ∧ c (q + t) ≤ 32767) :
    zQ (fun o => o.toInt = zz_pw2 c q) (zf_X8_power S a1) := by
  unfold zf_X8_power
  have hs40 := zz_pw2_s nc 40 (Nat.le_refl _)
  refine zQ.of (fun T hT => zT_b1 (zQ_sumI _ 0 40 (fun t => c (q + t) / 8 * (c (q + t) / 8)) (by omega) (by omega) ?_ ?_ (0 : Int32) rfl) (fun v3 h3 => hT _ (za_mul (by decide) h3 (by omega) (by omega))))
  · intro i a _ hi ha rec T hT
    rw [Nat.sub_zero] at ha hT
    have ei : (nI i).toInt = i := za_nI (by omega)
    have eq : (a1 + nI i).toInt = ((q + i : Nat) : Int) := by have := za_add h1 ei (by omega) (by omega); omega
    have n2 := nc i hi
    have hm := zn_mul (a := c (q + i) / 8) (b := c (q + i) / 8) (A := 4096) (B := 4096) (by omega) (by omega) (by omega) (by omega)
    have hs := zz_pw2_s nc i (by omega)
    have hs1 := zz_pw2_s nc (i + 1) (by omega)
    simp only [zz_sum] at hs1
    unfold zb_X8_power_4
    refine zT_iff (by rw [za_le, ei, show (40 : Int32).toInt = 40 by decide]; omega) (zT_gi eq (by omega) ?_)
    rw [za_pos eq]
    refine zT_lt (fun v1 e1 => zT_lt (fun v2 e2 => zT_lt (fun v3 e3 => ?_)))
    have q1 : v1.toInt = c (q + i) / 8 := by rw [e1]; exact za_sr (n := 3) 3 8 (hc i hi) (by decide) (by decide) (by decide)
    rw [e3, zc_1]
    refine hT _ ?_
    rw [e2, za_add ha (za_mul q1 q1 (by omega) (by omega)) (by omega) (by omega)]
  · intro a rec T hT
    unfold zb_X8_power_4
    exact zT_ift (by decide) hT
theorem zp_gainOf {a1 a2 : Int32} {t v : Int} (h1 : a1.toInt = t) (h2 : a2.toInt = v) (ht : 0 ≤ t) : zQ (fun o => o.toInt = ((zz_gain t v : Nat) : Int)) (zf_X8_gainOf a1 a2) := by
  have b2 := za_b a2
  refine zQ.of (fun T hT => ?_)
  unfold zf_X8_gainOf
  refine zT_if (fun c => hT _ ?_) (fun c => zT_if (fun c1 => ?_) (fun c1 => hT _ ?_))
  · rw [za_eq, h1, show (0 : Int32).toInt = 0 by decide] at c
    unfold zz_gain; rw [if_pos c]; rfl
  · rw [za_eq, h1, show (0 : Int32).toInt = 0 by decide] at c
    rw [za_lt, h1, h2] at c1
    obtain ⟨g1, g2, g3, -⟩ := zz_norm_s (a := v) (by omega) (by omega)
    refine zT_b1 (zp_norm h2 (by omega)) (fun v1 e1 => zT_lt (fun v2 e2 => zT_lt (fun v3 e3 => ?_)))
    have ev1 : v1.toInt = (zz_norm v : Nat) := by rw [e1]; exact za_nI (by omega)
    have hp : (0 : Int) ≤ 2 ^ (zz_norm v) := Int.le_of_lt (Int.pow_pos (by omega))
    have m1 := Int.mul_le_mul_of_nonneg_right (show t ≤ v by omega) hp
    have m2 := Int.mul_nonneg ht hp
    have q2 : v2.toInt = t * 2 ^ (zz_norm v) / 65536 := by rw [e2]; exact za_sr (n := 16) 16 65536 (za_shl h1 ev1 (by omega) (by omega) (by omega)) (by decide) (by decide) (by decide)
    have q3 : v3.toInt = v * 2 ^ (zz_norm v) / 65536 := by rw [e3]; exact za_sr (n := 16) 16 65536 (za_shl h2 ev1 (by omega) (by omega) (by omega)) (by decide) (by decide) (by decide)
    have hg : zz_gain t v = zz_gl (t * 2 ^ (zz_norm v) / 65536) (v * 2 ^ (zz_norm v) / 65536) := by unfold zz_gain; rw [if_neg c, if_neg (by omega)]
    refine zT_s0 (P := fun _ => zz_gain t v = 3) (Q := fun o => o.toInt = ((zz_gain t v : Nat) : Int)) ?_ (fun r hr => hT r hr) (fun h3 => hT _ (by rw [h3]; rfl))
    refine zQ_wh1 _ 3 (fun i a => a = nI i ∧ i ≤ 3 ∧ ∀ s, s < i → ¬ t * 2 ^ (zz_norm v) / 65536 ≤ zz_L (v * 2 ^ (zz_norm v) / 65536) (zz_D s)) _ ?_ 600 0 (0 : Int32) (by omega) (by omega) ⟨rfl, by omega, fun s hs => absurd hs (Nat.not_lt_zero s)⟩
    intro i a hP rec T hT hR
    obtain ⟨ea, hi, hno⟩ := hP
    have ei : (nI i).toInt = i := za_nI (by omega)
    unfold zb_X8_gainOf_36
    rw [ea]
    refine zT_if (fun c3 => hT _ ?_) (fun c3 => ?_)
    · rw [za_le, ei, show (3 : Int32).toInt = 3 by decide] at c3
      show zz_gain t v = 3
      have : i = 3 := by omega
      subst this
      rw [hg]; exact zz_gl_at hno (Nat.le_refl _) (Or.inl rfl)
    · rw [za_le, ei, show (3 : Int32).toInt = 3 by decide] at c3
      have hi3 : i < 3 := by omega
      have hD := zz_D_b i hi3
      have hm := zn_mul (a := v * 2 ^ (zz_norm v) / 65536) (b := zz_D i) (A := 32768) (B := 26214) (by omega) (by omega) (by omega) (by omega)
      refine zT_gi ei hi3 ?_
      rw [za_pos ei]
      refine zT_lt (fun v4 e4 => zT_if (fun c5 => zT_lt (fun v5 e5 => hR _ hi3 ⟨?_, by omega, ?_⟩)) (fun c5 => hT _ ?_))
      · rw [e5, zc_1]
      · rw [za_lt, e4, zp_floored (y := zz_D i) q3 rfl (by omega) (by omega), q2] at c5
        intro s hs
        by_cases cs : s = i
        · subst cs; omega
        · exact hno s (by omega)
      · rw [za_lt, e4, zp_floored (y := zz_D i) q3 rfl (by omega) (by omega), q2] at c5
        show (nI i).toInt = ((zz_gain t v : Nat) : Int)
        rw [hg, zz_gl_at hno (by omega) (Or.inr (by omega)), ei]
  · rw [za_eq, h1, show (0 : Int32).toInt = 0 by decide] at c
    rw [za_lt, h1, h2] at c1
    unfold zz_gain; rw [if_neg c, if_pos (by omega)]; rfl
def zz_lk (d c : Nat → Int) (q n : Nat) : Int := zz_like (fun t => d t / 2 ^ (zz_fd d)) c (q - n)
def zz_back (d c : Nat → Int) (q : Nat) : Nat := (zz_bs (zz_lk d c q) 81).2
def zz_gn (d c : Nat → Int) (q : Nat) : Nat := zz_gain (2 * (zz_bs (zz_lk d c q) 81).1 / 2 ^ (6 - zz_fd d)) (zz_pw2 c (q - zz_back d c q))
theorem zz_lk_b {d c : Nat → Int} {q n : Nat} (nd : ∀ t, t < 40 → -32768 ≤ d t ∧ d t ≤ 32767) (nc : ∀ t, t < q → -32768 ≤ c t ∧ c t ≤ 32767) (hq : 120 ≤ q) (h1 : 40 ≤ n) (h2 : n ≤ 120) : -671088640 ≤ zz_lk d c q n ∧ zz_lk d c q n ≤ 671088640 := zz_like_b (fun t ht => zz_low_b nd ht) (fun t ht => nc _ (by omega))
theorem zz_back_b {d c : Nat → Int} {q : Nat} (nd : ∀ t, t < 40 → -32768 ≤ d t ∧ d t ≤ 32767) (nc : ∀ t, t < q → -32768 ≤ c t ∧ c t ≤ 32767) (hq : 120 ≤ q) : 40 ≤ zz_back d c q ∧ zz_back d c q ≤ 120 := by
  have := zz_bs_b (L := zz_lk d c q) 81 (fun t ht => (zz_lk_b nd nc hq (by omega) (by omega)).2)
  unfold zz_back; omega
theorem zp_find (S : zs_T) {a1 : Int32} {p : Nat} (h1 : a1.toInt = p) (hp : p < 4) {d c : Nat → Int} (hd : ∀ t, t < 40 → (S.1 6 (40 * p + t)).toInt = d t) (nd : ∀ t, t < 40 → -32768 ≤ d t ∧ d t ≤ 32767) (hc : ∀ t, t < 120 + 40 * p → (S.1 20 t).toInt = c t) (nc : ∀ t, t < 120 + 40 * p → -32768 ≤ c t ∧ c t ≤ 32767) :
    zQ (fun S1 => zF (fun k j => (k = 22 ∧ (j = 1 ∨ j = 2)) ∨ (k = 23 ∧ j < 40)) zF_0 S S1 ∧ (S1.1 22 1).toInt = ((zz_back d c (120 + 40 * p) : Nat) : Int) ∧ (S1.1 22 2).toInt = ((zz_gn d c (120 + 40 * p) : Nat) : Int)) (zf_X8_find S a1) := by
  have e40 : ((40 : Int32) * a1).toInt = ((40 * p : Nat) : Int) := by have := za_mul (show (40 : Int32).toInt = 40 by decide) h1 (by omega) (by omega); omega
  have hbk := zz_back_b nd nc (by omega)
  refine zQ.of (fun T hT => ?_)
  unfold zf_X8_find
  refine zT_lt (fun v1 e1 => zT_b2 (zp_slower S e40 (by omega) hd nd) (fun v2 S3 h3 => zT_lt (fun S4 e4 => ?_)))
  dsimp only at h3
  obtain ⟨w1, w2, w3⟩ := h3
  have q1 : v1.toInt = ((120 + 40 * p : Nat) : Int) := by
    rw [e1]; unfold zf_X5_from
    have := za_add (show (120 : Int32).toInt = 120 by decide) e40 (by omega) (by omega); omega
  have fr4 : zF (fun k j => (k = 22 ∧ (j = 1 ∨ j = 2)) ∨ (k = 23 ∧ j < 40)) zF_0 S S4 := by rw [e4]; exact (w2.mo (fun k j h => Or.inr h) (fun _ _ h => h)).wi _ (Or.inl ⟨rfl, Or.inl rfl⟩)
  have l4 : ∀ t, t < 40 → (S4.1 23 t).toInt = d t / 2 ^ (zz_fd d) := fun t ht => by rw [e4, zs_in _ _ (by omega)]; exact w3 t ht
  have b4 : (S4.1 22 1).toInt = ((zz_bs (zz_lk d c (120 + 40 * p)) 0).2 : Nat) := by rw [e4, zs_ii]; rfl
  clear e4
  refine zT_b2 (P := fun o => zF (fun k j => (k = 22 ∧ (j = 1 ∨ j = 2)) ∨ (k = 23 ∧ j < 40)) zF_0 S o.1 ∧ (o.1.1 22 1).toInt = ((zz_back d c (120 + 40 * p) : Nat) : Int) ∧ o.2.toInt = (zz_bs (zz_lk d c (120 + 40 * p)) 81).1) (zQ_for3 _ 121 (fun n S1 b => ∃ i, n = 40 + i ∧ zF (fun k j => (k = 22 ∧ (j = 1 ∨ j = 2)) ∨ (k = 23 ∧ j < 40)) zF_0 S S1 ∧ (∀ t, t < 40 → (S1.1 23 t).toInt = d t / 2 ^ (zz_fd d)) ∧ (S1.1 22 1).toInt = ((zz_bs (zz_lk d c (120 + 40 * p)) i).2 : Nat) ∧ b.toInt = (zz_bs (zz_lk d c (120 + 40 * p)) i).1) _ ?_ ?_ 600 40 S4 (0 : Int32) (by omega) (by omega) ⟨0, rfl, fr4, l4, b4, rfl⟩) (fun S9 v10 h9 => ?_)
  · intro n Sc b hn hP rec T hT
    obtain ⟨i, ein, hF, hl, hb2, hb1⟩ := hP
    subst ein
    have en : (nI (40 + i)).toInt = ((40 + i : Nat) : Int) := za_nI (by omega)
    have eat : (v1 - nI (40 + i)).toInt = ((120 + 40 * p - (40 + i) : Nat) : Int) := by have := za_sub q1 en (by omega) (by omega); omega
    unfold zb_X8_find_30
    refine zT_iff (by rw [za_lt, en, show (120 : Int32).toInt = 120 by decide]; omega) (zT_b1 (zp_likeness Sc eat (by omega) (l := fun t => d t / 2 ^ (zz_fd d)) (c := c) hl (fun t ht => zz_low_b nd ht) (fun t ht => by rw [hF.1 20 _ (by omega)]; exact hc _ (by omega)) (fun t ht => nc _ (by omega))) (fun v5 h5 => zT_if (fun cc => zT_lt (fun v6 e6 => ?_)) (fun cc => zT_lt (fun S7 e7 => zT_lt (fun v8 e8 => ?_)))))
    · rw [za_le, h5, hb1] at cc
      have es : zz_bs (zz_lk d c (120 + 40 * p)) (i + 1) = zz_bs (zz_lk d c (120 + 40 * p)) i := by simp only [zz_bs]; rw [if_neg (by unfold zz_lk; unfold zz_lk at cc; omega)]
      rw [e6, zc_1]
      exact hT _ _ ⟨i + 1, rfl, hF, hl, by rw [es]; exact hb2, by rw [es]; exact hb1⟩
    · rw [za_le, h5, hb1] at cc
      have es : zz_bs (zz_lk d c (120 + 40 * p)) (i + 1) = (zz_lk d c (120 + 40 * p) (40 + i), 40 + i) := by simp only [zz_bs]; rw [if_pos (by unfold zz_lk; unfold zz_lk at cc; omega)]
      rw [e8, zc_1]
      refine hT _ _ ⟨i + 1, rfl, ?_, fun t ht => ?_, ?_, ?_⟩
      · rw [e7]; exact hF.wi _ (Or.inl ⟨rfl, Or.inl rfl⟩)
      · rw [e7, zs_in _ _ (by omega)]; exact hl t ht
      · rw [e7, zs_ii, es]; exact en
      · rw [es]; exact h5
  · intro Sc b hP rec T hT
    obtain ⟨i, ein, hF, hl, hb2, hb1⟩ := hP
    have : i = 81 := by omega
    subst this
    unfold zb_X8_find_30
    exact zT_ift (by decide) (hT _ ⟨hF, hb2, hb1⟩)
  · dsimp only at h9
    obtain ⟨u1, u2, u3⟩ := h9
    have hbs := (zz_bs_b (L := zz_lk d c (120 + 40 * p)) 81 (fun t ht => (zz_lk_b nd nc (by omega) (by omega) (by omega)).2)).1
    have eat : (v1 - S9.1 22 1).toInt = ((120 + 40 * p - zz_back d c (120 + 40 * p) : Nat) : Int) := by have := za_sub q1 u2 (by omega) (by omega); omega
    refine zT_b1 (zp_power S9 eat (by omega) (c := c) (fun t ht => by rw [u1.1 20 _ (by omega)]; exact hc _ (by omega)) (fun t ht => nc _ (by omega))) (fun v11 h11 => ?_)
    have hf6 : zz_fd d ≤ 6 := zz_f6_b _
    have e6 : ((6 : Int32) - v2).toInt = ((6 - zz_fd d : Nat) : Int) := by have := za_sub (show (6 : Int32).toInt = 6 by decide) w1 (by omega) (by omega); omega
    have et := za_shr (za_mul (show (2 : Int32).toInt = 2 by decide) u3 (by omega) (by omega)) e6 (by omega)
    have hp6 := zz_p6 (6 - zz_fd d) (by omega)
    refine zT_b1 (zp_gainOf et h11 (Int.ediv_nonneg (by omega) (by omega))) (fun v12 h12 => zT_lt (fun S13 e13 => hT _ ⟨?_, ?_, ?_⟩))
    · rw [e13]; exact u1.wi _ (Or.inl ⟨rfl, Or.inr rfl⟩)
    · rw [e13, zs_in _ _ (by omega)]; exact u2
    · rw [e13, zs_ii]; exact h12
