def zz_f (a : Int) : Int := if a = 0 then 0 else 4 - (zz_norm (a * 65536) : Int)
def zz_y (f x : Int) : Int := if f ≤ 0 then x else zz_M x (16384 / 2 ^ (f - 1).toNat)
def zz_yx (f x : Int) : Int := if f ≤ 0 then x else zz_cut (zz_y f x * 2 ^ f.toNat)
def zz_fx (x : Nat → Int) : Int := zz_f (zz_max (fun t => zz_size (x t)) 160)
theorem zz_y_num {f x : Int} (h : -32768 ≤ x ∧ x ≤ 32767) : -32768 ≤ zz_y f x ∧ zz_y f x ≤ 32767 := by unfold zz_y; split; exact h; exact zz_M_b _ _
theorem zz_yx_num {f x : Int} (h : -32768 ≤ x ∧ x ≤ 32767) : -32768 ≤ zz_yx f x ∧ zz_yx f x ≤ 32767 := by unfold zz_yx; split; exact h; exact zz_cut_b _
theorem zz_sh4 : ∀ n, n < 4 → 0 ≤ (16384 : Int) / 2 ^ n ∧ (16384 : Int) / 2 ^ n ≤ 16384 := by decide
theorem zz_p4 : ∀ n, n < 5 → 1 ≤ (2 : Int) ^ n ∧ (2 : Int) ^ n ≤ 16 := by decide
theorem zz_size_i {x : Int} (h : -32768 ≤ x ∧ x ≤ 32767) {a : Int} (ha : zz_size x ≤ a) : (-a ≤ x ∧ x ≤ a) ∨ (x = -32768 ∧ 32767 ≤ a) := by
  unfold zz_size zz_cut at ha
  split at ha <;> split at ha <;> (try split at ha) <;> omega
theorem zz_f_b {a : Int} (h0 : 0 ≤ a) (h1 : a ≤ 32767) : zz_f a ≤ 4 ∧ -26 ≤ zz_f a := by
  unfold zz_f
  split
  · omega
  · have := zz_norm_s (a := a * 65536) (by omega) (by omega); omega
theorem zz_max_sz {x : Nat → Int} (n : Nat) : 0 ≤ zz_max (fun t => zz_size (x t)) n ∧ zz_max (fun t => zz_size (x t)) n ≤ 32767 := zz_max_b (B := 32767) (by omega) n (fun t _ => (zz_size_b (x t)).2)
theorem zz_fx_b (x : Nat → Int) : zz_fx x ≤ 4 := (zz_f_b (zz_max_sz 160).1 (zz_max_sz 160).2).1
theorem zz_y_b {x : Nat → Int} (hx : ∀ t, t < 160 → -32768 ≤ x t ∧ x t ≤ 32767) {t : Nat} (ht : t < 160) : -2048 ≤ zz_y (zz_fx x) (x t) ∧ zz_y (zz_fx x) (x t) ≤ 2048 := by
  have hb := zz_max_sz (x := x) 160
  have hg := zz_max_ge (fun t => zz_size (x t)) 160 t ht
  unfold zz_fx
  generalize zz_max (fun t => zz_size (x t)) 160 = a at *
  have hs := zz_size_i (hx t ht) hg
  unfold zz_y zz_f
  by_cases c : a = 0
  · rw [if_pos c, if_pos (by omega)]; omega
  · rw [if_neg c]
    obtain ⟨g1, g2, g3, -⟩ := zz_norm_s (a := a * 65536) (by omega) (by omega)
    generalize zz_norm (a * 65536) = n at *
    by_cases c4 : n < 4
    · rw [if_neg (by omega)]
      rcases (show n = 0 ∨ n = 1 ∨ n = 2 ∨ n = 3 by omega) with e | e | e | e <;> subst e <;> simp at g1 g2 ⊢ <;> unfold zz_M zz_cut <;> split <;> (try split) <;> omega
    · rw [if_pos (by omega)]
      obtain ⟨m, e⟩ : ∃ m, n = 4 + m := ⟨n - 4, by omega⟩
      subst e
      have e2 : a * 65536 * 2 ^ (4 + m) = a * 1048576 * 2 ^ m := by
        rw [Int.pow_add, ← Int.mul_assoc]; congr 1; rw [Int.mul_assoc]; rfl
      have h1 : (1 : Int) ≤ 2 ^ m := Int.pow_pos (by omega)
      have h2 : a * 1048576 * 1 ≤ a * 1048576 * 2 ^ m := Int.mul_le_mul_of_nonneg_left h1 (by omega)
      omega
/-- the class's lowering -/
theorem zp_low0 (S : zs_T) {f3 : Int32} (hf : f3.toInt ≤ 0) : zQ (fun S1 => zF (fun k1 j => k1 = 10 ∧ j < 160) zF_0 S S1 ∧ ∀ t, t < 160 → (S1.1 10 t).toInt = (S.1 6 t).toInt) (zl_2 (zb_X6_lower_31 f3) 600 S (0 : Int32)) := by
  refine zQ_mapI _ 160 10 (fun t => t) (fun j => j < 160) _ S (fun s t _ _ h => h) (fun t h => h) (by omega) ?_ ?_
  · intro i S1 hi hF hU hW rec T hT
    have ei : (nI i).toInt = i := za_nI (by omega)
    unfold zb_X6_lower_31
    refine zT_iff (by rw [za_le, ei, show (160 : Int32).toInt = 160 by decide]; omega) (zT_ift (by rw [za_le]; exact hf) (zT_gi ei (by omega) (zT_gi ei (by omega) (zT_lt (fun S3 e3 => zT_lt (fun v4 e4 => ?_))))))
    rw [e4, zc_1, e3, za_pos ei]
    exact hT _ (by rw [hF.1 6 i (by omega)])
  · intro S1 hF rec T hT
    unfold zb_X6_lower_31
    exact zT_ift (by decide) hT
theorem zp_low1 (S : zs_T) {f3 : Int32} {f : Int} (hf : f3.toInt = f) (h0 : 0 < f) (h4 : f ≤ 4) {x : Nat → Int} (hx : ∀ t, t < 160 → (S.1 6 t).toInt = x t) (hr : ∀ t, t < 160 → -32768 ≤ x t ∧ x t ≤ 32767) :
    zQ (fun S1 => zF (fun k1 j => (k1 = 10 ∨ k1 = 6) ∧ j < 160) zF_0 S S1 ∧ (∀ t, t < 160 → (S1.1 10 t).toInt = zz_y f (x t)) ∧ ∀ t, t < 160 → (S1.1 6 t).toInt = zz_yx f (x t)) (zl_2 (zb_X6_lower_31 f3) 600 S (0 : Int32)) := by
  obtain ⟨n, hn, en⟩ : ∃ n : Nat, n < 4 ∧ f = n + 1 := ⟨(f - 1).toNat, by omega, by omega⟩
  have hs := zz_sh4 n hn
  have hp4 := zz_p4 (n + 1) (by omega)
  have en1 : (f - 1).toNat = n := by omega
  have en2 : f.toNat = n + 1 := by omega
  have ef1 : (f3 - (1 : Int32)).toInt = (n : Nat) := by have := za_sub hf (show (1 : Int32).toInt = 1 by decide) (by omega) (by omega); omega
  have ef : f3.toInt = ((n + 1 : Nat) : Int) := by omega
  have esh := za_shr (show (16384 : Int32).toInt = 16384 by decide) ef1 (by omega)
  refine zQ_mapII _ 160 10 6 (by decide) _ _ S (by omega) ?_ ?_
  · intro i S1 hi hF hU hW rec T hT
    have ei : (nI i).toInt = i := za_nI (by omega)
    have exi : (S1.1 6 i).toInt = x i := by rw [(hU i (Nat.le_refl _) hi).2]; exact hx i hi
    have hri := hr i hi
    have ey : (zf_X4_rounded (S1.1 6 i) ((16384 : Int32) >>> ((f3 - (1 : Int32)) &&& 31))).toInt = zz_y f (x i) := by
      rw [zp_rounded exi esh (by omega) (by omega) (by omega) (by omega)]
      unfold zz_y; rw [if_neg (by omega), en1]
    have hyb := zz_y_num (f := f) hri
    unfold zb_X6_lower_31
    refine zT_iff (by rw [za_le, ei, show (160 : Int32).toInt = 160 by decide]; omega) (zT_iff (by rw [za_le, hf]; exact Int.not_le.mpr h0) (zT_gi ei (by omega) ?_))
    rw [za_pos ei]
    refine zT_lt (fun v5 e5 => zT_gi ei (by omega) (zT_lt (fun S6 e6 => zT_gi ei (by omega) (zT_lt (fun v7 e7 => zT_gi ei (by omega) (zT_lt (fun S8 e8 => zT_lt (fun v9 e9 => ?_))))))))
    have hm := zn_mul (a := zz_y f (x i)) (b := 2 ^ (n + 1)) (A := 32768) (B := 16) (by omega) (by omega) (by omega) (by omega)
    rw [e9, zc_1, e8, e6]
    refine hT _ _ ?_ ?_
    · rw [e5]; exact ey
    · rw [e7, e6, zs_ii]
      have e10 : v5.toInt = zz_y f (x i) := by rw [e5]; exact ey
      rw [zp_cut (za_shl e10 ef (by omega) (by omega) (by omega))]
      unfold zz_yx; rw [if_neg (by omega), en2]
  · intro S1 hF rec T hT
    unfold zb_X6_lower_31
    exact zT_ift (by decide) hT
theorem zp_lower (S : zs_T) {x : Nat → Int} (hx : ∀ t, t < 160 → (S.1 6 t).toInt = x t) (hr : ∀ t, t < 160 → -32768 ≤ x t ∧ x t ≤ 32767) :
    zQ (fun S1 => zF (fun k1 j => (k1 = 10 ∨ k1 = 6) ∧ j < 160) zF_0 S S1 ∧ (∀ t, t < 160 → (S1.1 10 t).toInt = zz_y (zz_fx x) (x t)) ∧ ∀ t, t < 160 → (S1.1 6 t).toInt = zz_yx (zz_fx x) (x t)) (zf_X6_lower S) := by
  have key : ∀ f3 : Int32, f3.toInt = zz_fx x → zQ (fun S1 => zF (fun k1 j => (k1 = 10 ∨ k1 = 6) ∧ j < 160) zF_0 S S1 ∧ (∀ t, t < 160 → (S1.1 10 t).toInt = zz_y (zz_fx x) (x t)) ∧ ∀ t, t < 160 → (S1.1 6 t).toInt = zz_yx (zz_fx x) (x t)) (zj_X6_lower_27 S f3) := by
    intro f3 hf
    unfold zj_X6_lower_27
    by_cases c : zz_fx x ≤ 0
    · refine zQ.of (fun T hT => zT_b1 (zp_low0 S (by omega)) (fun S1 h1 => hT S1 ⟨h1.1.mo (fun k j h => ⟨Or.inl h.1, h.2⟩) (fun _ _ h => h), fun t ht => ?_, fun t ht => ?_⟩))
      · rw [h1.2 t ht, hx t ht]; unfold zz_y; rw [if_pos c]
      · rw [h1.1.1 6 t (by omega), hx t ht]; unfold zz_yx; rw [if_pos c]
    · exact zQ.of (fun T hT => zT_b1 (zp_low1 S hf (by omega) (zz_fx_b x) hx hr) (fun S1 h1 => hT S1 h1))
  have hb := zz_max_sz (x := x) 160
  unfold zf_X6_lower
  refine zQ.of (fun T hT => zT_b1 (zp_great 6 160 S (q := 0) (d := 1) (n := 160) (by decide) (by decide) (by decide) (by omega) (by omega) (by omega) (fun t ht => by omega) (x := x) (fun t ht => by rw [show 0 + 1 * t = t by omega]; exact hx t ht) hr) (fun v1 h1 => zT_if (fun c => ?_) (fun c => ?_)))
  · rw [za_eq, h1] at c
    have c0 : zz_max (fun t => zz_size (x t)) 160 = 0 := c
    obtain ⟨r, e, hr⟩ := key (0 : Int32) (by unfold zz_fx zz_f; rw [if_pos c0]; rfl)
    rw [e]; exact hT r hr
  · rw [za_eq, h1] at c
    have c0 : ¬ zz_max (fun t => zz_size (x t)) 160 = 0 := c
    have esl := za_sl (n := 16) 16 65536 h1 (by decide) (by decide) (by decide) (by omega) (by omega)
    refine zT_b1 (zp_norm esl (by omega)) (fun v2 h2 => ?_)
    obtain ⟨-, -, g3, -⟩ := zz_norm_s (a := zz_max (fun t => zz_size (x t)) 160 * 65536) (by omega) (by omega)
    obtain ⟨r, e, hr⟩ := key ((4 : Int32) - v2) (by
      unfold zz_fx zz_f; rw [if_neg c0, h2]
      exact za_sub (by decide) (za_nI (by omega)) (by omega) (by omega))
    rw [e]; exact hT r hr
/-- correlation -/
def zz_K (y : Nat → Int) (k : Nat) : Int := 2 * zz_sum (fun t => y (k + t) * y t) (160 - k)
theorem zp_corr (S : zs_T) {y : Nat → Int} (hy : ∀ t, t < 160 → (S.1 10 t).toInt = y t) (hr : ∀ t, t < 160 → -2048 ≤ y t ∧ y t ≤ 2048) :
    zQ (fun S1 => zF (fun k1 j => k1 = 11 ∧ j < 9) zF_0 S S1 ∧ ∀ t, t < 9 → (S1.1 11 t).toInt = zz_K y t) (zf_X6_correlate S) := by
  unfold zf_X6_correlate
  refine zQ.of (fun T hT => zT_b1 (zQ_mapI _ 9 11 (fun t => t) (fun j => j < 9) (zz_K y) S (fun s t _ _ h => h) (fun t h => h) (by omega) ?_ ?_) (fun S1 h1 => hT S1 h1))
  · intro k S1 hk hF hU hW rec T hT
    have ek : (nI k).toInt = k := za_nI (by omega)
    have hb : ∀ n : Nat, n ≤ 160 - k → -671088640 ≤ zz_sum (fun t => y (k + t) * y t) n ∧ zz_sum (fun t => y (k + t) * y t) n ≤ 671088640 := by
      intro n hn
      have := zz_sum_b (f := fun t => y (k + t) * y t) (B := 4194304) n (fun t ht => by
        have h1 := hr (k + t) (by omega)
        have h2 := hr t (by omega)
        exact zn_mul (A := 2048) (B := 2048) h1.1 h1.2 h2.1 h2.2)
      omega
    unfold zb_X6_correlate_2
    refine zT_iff (by rw [za_lt, ek, show (8 : Int32).toInt = 8 by decide]; omega) (zT_b1 (zQ_sumI _ k 160 (fun t => y (k + t) * y t) (by omega) (by omega) ?_ ?_ (0 : Int32) rfl) (fun v3 h3 => ?_))
    · intro i a h1 h2 ha rec T hT
      have ei : (nI i).toInt = i := za_nI (by omega)
      have eik : (nI i - nI k).toInt = ((i - k : Nat) : Int) := by have := za_sub ei ek (by omega) (by omega); omega
      have e1 : (S1.1 10 i).toInt = y i := by rw [hF.1 10 i (by omega)]; exact hy i h2
      have e2 : (S1.1 10 (i - k)).toInt = y (i - k) := by rw [hF.1 10 (i - k) (by omega)]; exact hy (i - k) (by omega)
      have r1 := hr i h2
      have r2 := hr (i - k) (by omega)
      have hm := zn_mul (A := 2048) (B := 2048) r1.1 r1.2 r2.1 r2.2
      have hs := hb (i - k) (by omega)
      have hs1 := hb (i - k + 1) (by omega)
      simp only [zz_sum] at hs1
      rw [show k + (i - k) = i by omega] at hs1
      unfold zb_X6_correlate_12
      refine zT_iff (by rw [za_le, ei, show (160 : Int32).toInt = 160 by decide]; omega) (zT_gi ei (by omega) (zT_gi eik (by omega) ?_))
      rw [za_pos ei, za_pos eik]
      refine zT_lt (fun v1 q1 => zT_lt (fun v2 q2 => ?_))
      rw [q2, zc_1]
      refine hT _ ?_
      rw [q1, za_add ha (za_mul e1 e2 (by omega) (by omega)) (by omega) (by omega)]
      show _ = _ + y (k + (i - k)) * y (i - k)
      rw [show k + (i - k) = i by omega]
    · intro a rec T hT
      unfold zb_X6_correlate_12
      exact zT_ift (by decide) hT
    · have h160 := hb (160 - k) (Nat.le_refl _)
      refine zT_gi ek (by omega) ?_
      rw [za_pos ek]
      refine zT_lt (fun S4 e4 => zT_lt (fun v5 e5 => ?_))
      rw [e5, zc_1, e4]
      exact hT _ (za_mul (by decide) h3 (by omega) (by omega))
  · intro S1 hF rec T hT
    unfold zb_X6_correlate_2
    exact zT_ift (by decide) hT
/-- the reference's -/
theorem zq_low (S : zs_T) {f3 : Int32} {f : Int} (hf : f3.toInt = f) (h0 : 0 < f) (h4 : f ≤ 4) {x : Nat → Int} (hx : ∀ t, t < 160 → (S.2 49 t).toInt = x t) (hr : ∀ t, t < 160 → -32768 ≤ x t ∧ x t ≤ 32767) :
    zQ (fun S1 => zF zF_0 (fun k1 j => k1 = 49 ∧ j < 160) S S1 ∧ ∀ t, t < 160 → (S1.2 49 t).toInt = zz_y f (x t)) (zl_2 (zb_X11_correlates_40 f3) 600 S (0 : Int32)) := by
  obtain ⟨n, hn, en⟩ : ∃ n : Nat, n < 4 ∧ f = n + 1 := ⟨(f - 1).toNat, by omega, by omega⟩
  have hs := zz_sh4 n hn
  have en1 : (f - 1).toNat = n := by omega
  have ef1 : (f3 - (1 : Int32)).toInt = (n : Nat) := by have := za_sub hf (show (1 : Int32).toInt = 1 by decide) (by omega) (by omega); omega
  have esh := zb_shr (show (16384 : Int64).toInt = 16384 by decide) ef1 (by omega)
  refine zQ_mapL _ 160 49 (fun t => t) (fun j => j < 160) _ S (fun s t _ _ h => h) (fun t h => h) (by omega) ?_ ?_
  · intro i S1 hi hF hU hW rec T hT
    have ei : (nI i).toInt = i := za_nI (by omega)
    have exi : (S1.2 49 i).toInt = x i := by rw [hU i (Nat.le_refl _) hi]; exact hx i hi
    have hri := hr i hi
    unfold zb_X11_correlates_40
    refine zT_iff (by rw [za_le, ei, show (160 : Int32).toInt = 160 by decide]; omega) (zT_gi ei (by omega) ?_)
    rw [za_pos ei]
    refine zT_lt (fun v5 e5 => zT_gi ei (by omega) (zT_lt (fun S6 e6 => zT_lt (fun v9 e9 => ?_))))
    rw [e9, zc_1, e6]
    refine hT _ ?_
    rw [e5, zq_rounded exi esh (by omega) (by omega) (by omega) (by omega)]
    unfold zz_y; rw [if_neg (by omega), en1]
  · intro S1 hF rec T hT
    unfold zb_X11_correlates_40
    exact zT_ift (by decide) hT
theorem zq_high0 (S : zs_T) {f3 : Int32} (hf : f3.toInt ≤ 0) : zQ (fun S1 => S1 = S) (zl_2 (zb_X11_correlates_154 f3) 600 S (0 : Int32)) := by
  refine zQ_wh2 _ 0 (fun i a c => a = S ∧ c = (0 : Int32)) (fun S1 => S1 = S) ?_ 600 0 S (0 : Int32) (by omega) (by omega) ⟨rfl, rfl⟩
  intro i a c hp rec T hT hR
  obtain ⟨e1, e2⟩ := hp
  subst e1; subst e2
  unfold zb_X11_correlates_154
  exact zT_iff (by decide) (zT_ift (by rw [za_le]; exact hf) (hT _ rfl))
theorem zq_high (S : zs_T) {f3 : Int32} {f : Int} (hf : f3.toInt = f) (h0 : 0 < f) (h4 : f ≤ 4) {x : Nat → Int} (hx : ∀ t, t < 160 → (S.2 49 t).toInt = zz_y f (x t)) (hr : ∀ t, t < 160 → -32768 ≤ x t ∧ x t ≤ 32767) :
    zQ (fun S1 => zF zF_0 (fun k1 j => k1 = 49 ∧ j < 160) S S1 ∧ ∀ t, t < 160 → (S1.2 49 t).toInt = zz_yx f (x t)) (zl_2 (zb_X11_correlates_154 f3) 600 S (0 : Int32)) := by
  obtain ⟨n, hn, en⟩ : ∃ n : Nat, n < 4 ∧ f = n + 1 := ⟨(f - 1).toNat, by omega, by omega⟩
  have hp4 := zz_p4 (n + 1) (by omega)
  have en2 : f.toNat = n + 1 := by omega
  have ef : f3.toInt = ((n + 1 : Nat) : Int) := by omega
  refine zQ_mapL _ 160 49 (fun t => t) (fun j => j < 160) _ S (fun s t _ _ h => h) (fun t h => h) (by omega) ?_ ?_
  · intro i S1 hi hF hU hW rec T hT
    have ei : (nI i).toInt = i := za_nI (by omega)
    have exi : (S1.2 49 i).toInt = zz_y f (x i) := by rw [hU i (Nat.le_refl _) hi]; exact hx i hi
    have hyb := zz_y_num (f := f) (hr i hi)
    have hm := zn_mul (a := zz_y f (x i)) (b := 2 ^ (n + 1)) (A := 32768) (B := 16) (by omega) (by omega) (by omega) (by omega)
    unfold zb_X11_correlates_154
    refine zT_iff (by rw [za_le, ei, show (160 : Int32).toInt = 160 by decide]; omega) (zT_iff (by rw [za_le, hf]; exact Int.not_le.mpr h0) (zT_gi ei (by omega) ?_))
    rw [za_pos ei]
    refine zT_lt (fun v5 e5 => zT_gi ei (by omega) (zT_lt (fun S6 e6 => zT_lt (fun v9 e9 => ?_))))
    rw [e9, zc_1, e6]
    refine hT _ ?_
    rw [e5, zq_cut (zb_shl exi ef (by omega) (by omega) (by omega))]
    unfold zz_yx; rw [if_neg (by omega), en2]
  · intro S1 hF rec T hT
    unfold zb_X11_correlates_154
    exact zT_ift (by decide) hT
theorem zq_corr (S : zs_T) {y : Nat → Int} (hy : ∀ t, t < 160 → (S.2 49 t).toInt = y t) (hr : ∀ t, t < 160 → -32768 ≤ y t ∧ y t ≤ 32767) :
    zQ (fun S1 => zF zF_0 (fun k1 j => k1 = 53 ∧ j < 9) S S1 ∧ ∀ t, t < 9 → (S1.2 53 t).toInt = zz_K y t) (zl_2 zb_X11_correlates_81 600 S (0 : Int32)) := by
  refine zQ_mapL _ 9 53 (fun t => t) (fun j => j < 9) (zz_K y) S (fun s t _ _ h => h) (fun t h => h) (by omega) ?_ ?_
  · intro k S1 hk hF hU hW rec T hT
    have ek : (nI k).toInt = k := za_nI (by omega)
    have hb : ∀ n : Nat, n ≤ 160 - k → -171798691840 ≤ zz_sum (fun t => y (k + t) * y t) n ∧ zz_sum (fun t => y (k + t) * y t) n ≤ 171798691840 := by
      intro n hn
      have := zz_sum_b (f := fun t => y (k + t) * y t) (B := 1073741824) n (fun t ht => by
        have h1 := hr (k + t) (by omega)
        have h2 := hr t (by omega)
        exact zn_mul (A := 32768) (B := 32768) h1.1 (by omega) h2.1 (by omega))
      omega
    unfold zb_X11_correlates_81
    refine zT_iff (by rw [za_le, ek, show (9 : Int32).toInt = 9 by decide]; omega) (zT_b1 (zQ_sumL _ k 160 (fun t => y (k + t) * y t) (by omega) (by omega) ?_ ?_ (0 : Int64) rfl) (fun v3 h3 => ?_))
    · intro i a h1 h2 ha rec T hT
      have ei : (nI i).toInt = i := za_nI (by omega)
      have eik : (nI i - nI k).toInt = ((i - k : Nat) : Int) := by have := za_sub ei ek (by omega) (by omega); omega
      have e1 : (S1.2 49 i).toInt = y i := by rw [hF.2 49 i (by omega)]; exact hy i h2
      have e2 : (S1.2 49 (i - k)).toInt = y (i - k) := by rw [hF.2 49 (i - k) (by omega)]; exact hy (i - k) (by omega)
      have r1 := hr i h2
      have r2 := hr (i - k) (by omega)
      have hm := zn_mul (A := 32768) (B := 32768) r1.1 (by omega) r2.1 (by omega)
      have hs := hb (i - k) (by omega)
      have hs1 := hb (i - k + 1) (by omega)
      simp only [zz_sum] at hs1
      rw [show k + (i - k) = i by omega] at hs1
      unfold zb_X11_correlates_95
      refine zT_iff (by rw [za_le, ei, show (160 : Int32).toInt = 160 by decide]; omega) (zT_gi ei (by omega) (zT_gi eik (by omega) ?_))
      rw [za_pos ei, za_pos eik]
      refine zT_lt (fun v1 q1 => zT_lt (fun v2 q2 => ?_))
      rw [q2, zc_1]
      refine hT _ ?_
      rw [q1, zb_add ha (zb_mul e1 e2 (by omega) (by omega)) (by omega) (by omega)]
      show _ = _ + y (k + (i - k)) * y (i - k)
      rw [show k + (i - k) = i by omega]
    · intro a rec T hT
      unfold zb_X11_correlates_95
      exact zT_ift (by decide) hT
    · have h160 := hb (160 - k) (Nat.le_refl _)
      refine zT_gi ek (by omega) ?_
      rw [za_pos ek]
      refine zT_lt (fun S4 e4 => zT_lt (fun v5 e5 => ?_))
      rw [e5, zc_1, e4]
      exact hT _ (zb_mul (by decide) h3 (by omega) (by omega))
  · intro S1 hF rec T hT
    unfold zb_X11_correlates_81
    exact zT_ift (by decide) hT
theorem zq_correlates (S : zs_T) {x : Nat → Int} (hx : ∀ t, t < 160 → (S.2 49 t).toInt = x t) (hr : ∀ t, t < 160 → -32768 ≤ x t ∧ x t ≤ 32767) :
    zQ (fun S1 => zF zF_0 (fun k1 j => (k1 = 49 ∧ j < 160) ∨ (k1 = 53 ∧ j < 9)) S S1 ∧ (∀ t, t < 9 → (S1.2 53 t).toInt = zz_K (fun t => zz_y (zz_fx x) (x t)) t) ∧ ∀ t, t < 160 → (S1.2 49 t).toInt = zz_yx (zz_fx x) (x t)) (zf_X11_correlates S) := by
  have key : ∀ f3 : Int32, f3.toInt = zz_fx x → zQ (fun S1 => zF zF_0 (fun k1 j => (k1 = 49 ∧ j < 160) ∨ (k1 = 53 ∧ j < 9)) S S1 ∧ (∀ t, t < 9 → (S1.2 53 t).toInt = zz_K (fun t => zz_y (zz_fx x) (x t)) t) ∧ ∀ t, t < 160 → (S1.2 49 t).toInt = zz_yx (zz_fx x) (x t)) (zj_X11_correlates_32 S f3) := by
    intro f3 hf
    unfold zj_X11_correlates_32
    have hyn : ∀ t, t < 160 → -32768 ≤ zz_y (zz_fx x) (x t) ∧ zz_y (zz_fx x) (x t) ≤ 32767 := fun t ht => zz_y_num (hr t ht)
    by_cases c : zz_fx x ≤ 0
    · refine zQ.of (fun T hT => zT_ift (by rw [za_le, hf]; exact c) ?_)
      unfold zj_X11_correlates_78
      refine zT_b1 (zq_corr S (y := fun t => zz_y (zz_fx x) (x t)) (fun t ht => by rw [hx t ht]; unfold zz_y; rw [if_pos c]) hyn) (fun S1 h1 => zT_b1 (zq_high0 S1 (by omega)) (fun S2 h2 => hT S2 ?_))
      subst h2
      refine ⟨h1.1.mo (fun _ _ h => h) (fun k j h => Or.inr h), h1.2, fun t ht => ?_⟩
      rw [h1.1.2 49 t (by omega), hx t ht]; unfold zz_yx; rw [if_pos c]
    · refine zQ.of (fun T hT => zT_iff (by rw [za_le, hf]; exact c) (zT_b1 (zq_low S hf (by omega) (zz_fx_b x) hx hr) (fun S1 h1 => ?_)))
      unfold zj_X11_correlates_78
      refine zT_b1 (zq_corr S1 (y := fun t => zz_y (zz_fx x) (x t)) h1.2 hyn) (fun S2 h2 => zT_b1 (zq_high S2 hf (by omega) (zz_fx_b x) (fun t ht => by rw [h2.1.2 49 t (by omega)]; exact h1.2 t ht) hr) (fun S3 h3 => hT S3 ⟨?_, fun t ht => ?_, h3.2⟩))
      · exact ((h1.1.mo (fun _ _ h => h) (fun k j h => Or.inl h)).tr (h2.1.mo (fun _ _ h => h) (fun k j h => Or.inr h))).tr (h3.1.mo (fun _ _ h => h) (fun k j h => Or.inl h))
      · rw [h3.1.2 53 t (by omega)]; exact h2.2 t ht
  have hb := zz_max_sz (x := x) 160
  unfold zf_X11_correlates
  refine zQ.of (fun T hT => zT_b1 (zq_great 49 S (q := 0) (n := 160) (by decide) (by decide) (by omega) (x := x) (fun t ht => by rw [show 0 + t = t by omega]; exact hx t ht) hr) (fun v1 h1 => zT_if (fun c => ?_) (fun c => ?_)))
  · rw [zb_eq, h1] at c
    have c0 : zz_max (fun t => zz_size (x t)) 160 = 0 := c
    obtain ⟨r, e, hr⟩ := key (0 : Int32) (by unfold zz_fx zz_f; rw [if_pos c0]; rfl)
    rw [e]; exact hT r hr
  · rw [zb_eq, h1] at c
    have c0 : ¬ zz_max (fun t => zz_size (x t)) 160 = 0 := c
    have esl := zb_mul h1 (show (65536 : Int64).toInt = 65536 by decide) (by omega) (by omega)
    refine zT_b1 (zq_norm esl (by omega) (by omega)) (fun v2 h2 => ?_)
    obtain ⟨-, -, g3, -⟩ := zz_norm_s (a := zz_max (fun t => zz_size (x t)) 160 * 65536) (by omega) (by omega)
    obtain ⟨r, e, hr⟩ := key ((4 : Int32) - v2) (by
      unfold zz_fx zz_f; rw [if_neg c0, h2]
      exact za_sub (by decide) (za_nI (by omega)) (by omega) (by omega))
    rw [e]; exact hT r hr
