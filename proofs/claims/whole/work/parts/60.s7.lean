/-! the filter's numbers -/
def zz_sg (a s : Int) : Int := if 0 ≤ a then s else -s
def zz_bt (h : Int) : Int := if 31130 ≤ h then (h - 26112) * 4 else if 22118 ≤ h then h - 11059 else h / 2
def zz_bent (r : Int) : Int := zz_sg r (zz_bt (zz_size r))
def zz_clamp (lo hi n : Int) : Int := if n < lo then lo else if hi < n then hi else n
def zz_A (j : Nat) : Int := (zt_v4 j).toInt
def zz_B (j : Nat) : Int := (zt_v3 j).toInt
def zz_lo (j : Nat) : Int := (zt_v2 j).toInt
def zz_hi (j : Nat) : Int := (zt_v5 j).toInt
def zz_C (j : Nat) : Int := (zt_v6 j).toInt
theorem zz_A_b : ∀ j, j < 8 → 8534 ≤ zz_A j ∧ zz_A j ≤ 20480 := by decide
theorem zz_B_b : ∀ j, j < 8 → -2560 ≤ zz_B j ∧ zz_B j ≤ 2048 := by decide
theorem zz_lo_b : ∀ j, j < 8 → -32 ≤ zz_lo j ∧ zz_lo j ≤ -4 := by decide
theorem zz_hi_b : ∀ j, j < 8 → zz_hi j = -(zz_lo j) - 1 := by decide
theorem zz_C_b : ∀ j, j < 8 → 13107 ≤ zz_C j ∧ zz_C j ≤ 31454 := by decide
theorem zq_tA : ∀ j, j < 8 → (zf_X11_tableA (nI j)).toInt = zz_A j := by decide
theorem zq_tB : ∀ j, j < 8 → (zf_X11_tableB (nI j)).toInt = zz_B j := by decide
theorem zq_tC : ∀ j, j < 8 → (zf_X11_tableC (nI j)).toInt = zz_C j := by decide
theorem zq_lo : ∀ j, j < 8 → (zf_X11_least (nI j)).toInt = zz_lo j := by decide
def zz_fn (j : Nat) (r : Int) : Int := zz_clamp (zz_lo j) (zz_hi j) (zz_cut (zz_cut (zz_L (zz_A j) (zz_bent r) + zz_B j) + 256) / 512) - zz_lo j
theorem zz_bt_b {h : Int} (h0 : 0 ≤ h) (h1 : h ≤ 32767) : 0 ≤ zz_bt h ∧ zz_bt h ≤ 26620 := by unfold zz_bt; split <;> (try split) <;> omega
theorem zz_bent_b (r : Int) : -26620 ≤ zz_bent r ∧ zz_bent r ≤ 26620 := by
  have h := zz_size_b r
  have := zz_bt_b h.1 h.2
  unfold zz_bent zz_sg; split <;> omega
theorem zz_fn_b {j : Nat} (hj : j < 8) (r : Int) : 0 ≤ zz_fn j r ∧ zz_fn j r ≤ 63 := by
  have h1 := zz_lo_b j hj
  have h2 := zz_hi_b j hj
  unfold zz_fn zz_clamp; split <;> (try split) <;> omega
theorem zp_sign {a b : Int32} {x y : Int} (ha : a.toInt = x) (hb : b.toInt = y) (hy : -2147483648 < y) : (zf_X4_withSignOf a b).toInt = zz_sg x y := by
  unfold zf_X4_withSignOf zz_sg
  by_cases c : 0 ≤ x
  · rw [if_pos (by rw [za_le, ha]; exact c), if_pos c]; exact hb
  · rw [if_neg (by rw [za_le, ha]; exact c), if_neg c]; exact za_neg hb hy
theorem zp_bent {a : Int32} {x : Int} (h : a.toInt = x) (hx : -32768 ≤ x) : (zf_X6_bent a).toInt = zz_bent x := by
  have hs := zp_size h (by omega)
  have hb := zz_size_b x
  have hbt := zz_bt_b hb.1 hb.2
  unfold zf_X6_bent zz_bent
  simp only [zc_lt]
  by_cases c1 : 22118 ≤ zz_size x
  · rw [if_pos (by rw [za_le, hs]; exact c1)]
    by_cases c2 : 31130 ≤ zz_size x
    · rw [if_pos (by rw [za_le, hs]; exact c2)]
      have e : ((zf_X4_size a - (26112 : Int32)) * (4 : Int32)).toInt = zz_bt (zz_size x) := by
        rw [za_mul (za_sub hs (show (26112 : Int32).toInt = 26112 by decide) (by omega) (by omega)) (show (4 : Int32).toInt = 4 by decide) (by omega) (by omega)]
        unfold zz_bt; rw [if_pos c2]
      exact zp_sign h e (by omega)
    · rw [if_neg (by rw [za_le, hs]; exact c2)]
      have e : (zf_X4_size a - (11059 : Int32)).toInt = zz_bt (zz_size x) := by
        rw [za_sub hs (show (11059 : Int32).toInt = 11059 by decide) (by omega) (by omega)]
        unfold zz_bt; rw [if_neg c2, if_pos c1]
      exact zp_sign h e (by omega)
  · rw [if_neg (by rw [za_le, hs]; exact c1)]
    have e : (zf_X4_size a >>> ((1 : Int32) &&& 31)).toInt = zz_bt (zz_size x) := by
      rw [za_sr (n := 1) 1 2 hs (by decide) (by decide) (by decide)]
      unfold zz_bt; rw [if_neg (by omega), if_neg c1]
    exact zp_sign h e (by omega)
theorem zp_filterNumber {j : Nat} (hj : j < 8) {a : Int32} {r : Int} (h : a.toInt = zz_bent r) : zQ (fun o => o.toInt = zz_fn j r) (zf_X6_filterNumber (nI j) a) := by
  have ej : (nI j).toInt = j := za_nI (by omega)
  have hA := zz_A_b j hj
  have hB := zz_B_b j hj
  have hl := zz_lo_b j hj
  have hh := zz_hi_b j hj
  have hbe := zz_bent_b r
  have hm := zn_mul (a := zz_A j) (b := zz_bent r) (A := 20480) (B := 26620) (by omega) (by omega) (by omega) (by omega)
  have hL := zz_L_b (zz_A j) (zz_bent r)
  have hc := zz_cut_b (zz_L (zz_A j) (zz_bent r) + zz_B j)
  have hc2 := zz_cut_b (zz_cut (zz_L (zz_A j) (zz_bent r) + zz_B j) + 256)
  refine zQ.of (fun T hT => ?_)
  have key : ∀ z : Int32, (z.toInt = zz_clamp (zz_lo j) (zz_hi j) (zz_cut (zz_cut (zz_L (zz_A j) (zz_bent r) + zz_B j) + 256) / 512) ∨ (zz_hi j < z.toInt ∧ zz_clamp (zz_lo j) (zz_hi j) (zz_cut (zz_cut (zz_L (zz_A j) (zz_bent r) + zz_B j) + 256) / 512) = zz_hi j)) → -1000 ≤ z.toInt → z.toInt ≤ 1000 → T (zj_X6_filterNumber_49 (nI j) z) := by
    intro z hz z1 z2
    have hcl : zz_clamp (zz_lo j) (zz_hi j) (zz_cut (zz_cut (zz_L (zz_A j) (zz_bent r) + zz_B j) + 256) / 512) ≤ zz_hi j := by unfold zz_clamp; split <;> (try split) <;> omega
    unfold zj_X6_filterNumber_49
    refine zT_gi ej hj ?_
    rw [za_pos ej]
    refine zT_if (fun c => zT_gi ej hj (hT _ ?_)) (fun c => zT_gi ej hj (zT_gi ej hj (hT _ ?_)))
    · rw [za_le] at c
      have c : z.toInt ≤ zz_hi j := c
      have : z.toInt = zz_clamp (zz_lo j) (zz_hi j) (zz_cut (zz_cut (zz_L (zz_A j) (zz_bent r) + zz_B j) + 256) / 512) := by omega
      exact za_sub this rfl (by show _ ≤ _ - zz_lo j; omega) (by show _ - zz_lo j ≤ _; omega)
    · rw [za_le] at c
      have c : ¬ z.toInt ≤ zz_hi j := c
      have : zz_hi j = zz_clamp (zz_lo j) (zz_hi j) (zz_cut (zz_cut (zz_L (zz_A j) (zz_bent r) + zz_B j) + 256) / 512) := by omega
      rw [za_sub (x := zz_hi j) (y := zz_lo j) rfl rfl (by omega) (by omega), this]
      rfl
  unfold zf_X6_filterNumber
  refine zT_gi ej hj ?_
  rw [za_pos ej]
  refine zT_lt (fun v1 e1 => zT_gi ej hj (zT_lt (fun v2 e2 => zT_lt (fun v3 e3 => zT_lt (fun v4 e4 => zT_gi ej hj ?_)))))
  have q1 : v1.toInt = zz_L (zz_A j) (zz_bent r) := by rw [e1]; exact zp_floored (x := zz_A j) rfl h (by omega) (by omega)
  have q2 : v2.toInt = zz_cut (zz_L (zz_A j) (zz_bent r) + zz_B j) := by rw [e2]; exact zp_cut (za_add (y := zz_B j) q1 rfl (by omega) (by omega))
  have q3 : v3.toInt = zz_cut (zz_cut (zz_L (zz_A j) (zz_bent r) + zz_B j) + 256) := by rw [e3]; exact zp_cut (za_add q2 (by decide) (by omega) (by omega))
  have q4 : v4.toInt = zz_cut (zz_cut (zz_L (zz_A j) (zz_bent r) + zz_B j) + 256) / 512 := by rw [e4]; exact za_sr 9 512 q3 (by decide) (by decide) (by decide)
  refine zT_if (fun c => key v4 ?_ (by omega) (by omega)) (fun c => zT_gi ej hj (key _ ?_ (by show -1000 ≤ zz_lo j; omega) (by show zz_lo j ≤ 1000; omega)))
  · rw [za_le, q4] at c
    have c : zz_lo j ≤ zz_cut (zz_cut (zz_L (zz_A j) (zz_bent r) + zz_B j) + 256) / 512 := c
    rw [q4]; unfold zz_clamp; rw [if_neg (by omega)]; split <;> omega
  · rw [za_le, q4] at c
    have c : ¬ zz_lo j ≤ zz_cut (zz_cut (zz_L (zz_A j) (zz_bent r) + zz_B j) + 256) / 512 := c
    left; unfold zz_clamp; rw [if_pos (by omega)]; rfl
theorem zp_predict15 (S : zs_T) {r : Nat → Int} (hr : ∀ t, t < 8 → (S.1 14 t).toInt = r t) (nr : ∀ t, t < 8 → -32768 ≤ r t) :
    zQ (fun S1 => zF (fun k1 j => k1 = 3 ∧ j < 8) zF_0 S S1 ∧ ∀ t, t < 8 → (S1.1 3 t).toInt = zz_fn t (r t)) (zl_2 zb_X6_predict_15 600 S (0 : Int32)) := by
  refine zQ_mapI _ 8 3 (fun t => t) (fun j => j < 8) _ S (fun s t _ _ h => h) (fun t h => h) (by omega) ?_ ?_
  · intro i Sc hi hF hU hW rec T hT
    have ei : (nI i).toInt = i := za_nI (by omega)
    have x1 : (Sc.1 14 i).toInt = r i := by rw [hF.1 14 i (by omega)]; exact hr i hi
    unfold zb_X6_predict_15
    refine zT_iff (by rw [za_le, ei, show (8 : Int32).toInt = 8 by decide]; omega) (zT_gi ei (by omega) ?_)
    rw [za_pos ei]
    refine zT_lt (fun v4 e4 => zT_b1 (zp_filterNumber hi (r := r i) (by rw [e4]; exact zp_bent x1 (nr i hi))) (fun v5 h5 => zT_gi ei (by omega) (zT_lt (fun S6 e6 => zT_lt (fun v7 e7 => ?_)))))
    rw [e7, zc_1, e6]
    exact hT _ h5
  · intro S1 hF rec T hT
    unfold zb_X6_predict_15
    exact zT_ift (by decide) hT
theorem zq_tellsFilter (S : zs_T) {r : Nat → Int} (hr : ∀ t, t < 8 → (S.2 56 (t + 1)).toInt = r t) (nr : ∀ t, t < 8 → -32768 ≤ r t) :
    zQ (fun S1 => zF (fun k1 j => k1 = 43 ∧ j < 8) zF_0 S S1 ∧ ∀ t, t < 8 → (S1.1 43 t).toInt = zz_fn t (r t)) (zf_X11_tellsFilter S) := by
  unfold zf_X11_tellsFilter
  refine zQ.of (fun T hT => zT_b1 (zQ_mapI _ 8 43 (fun t => t) (fun j => j < 8) (fun t => zz_fn t (r t)) S (fun s t _ _ h => h) (fun t h => h) (by omega) ?_ ?_) (fun S1 h1 => hT S1 h1))
  · intro i Sc hi hF hU hW rec T hT
    have ei : (nI i).toInt = i := za_nI (by omega)
    have ei1 : (nI i + (1 : Int32)).toInt = ((i + 1 : Nat) : Int) := by have := za_add ei (show (1 : Int32).toInt = 1 by decide) (by omega) (by omega); omega
    have x1 : (Sc.2 56 (i + 1)).toInt = r i := by rw [hF.2 56 (i + 1) (fun z => z)]; exact hr i hi
    have hri := nr i hi
    have hA := zz_A_b i hi
    have hB := zz_B_b i hi
    have hl := zz_lo_b i hi
    have hh := zz_hi_b i hi
    have hbe := zz_bent_b (r i)
    have hL := zz_L_b (zz_A i) (zz_bent (r i))
    have hc := zz_cut_b (zz_L (zz_A i) (zz_bent (r i)) + zz_B i)
    have hc2 := zz_cut_b (zz_cut (zz_L (zz_A i) (zz_bent (r i)) + zz_B i) + 256)
    have hs := zq_size x1 (by omega)
    have hb := zz_size_b (r i)
    have hbt := zz_bt_b hb.1 hb.2
    have k154 : ∀ z : Int64, z.toInt = zz_clamp (zz_lo i) (zz_hi i) (zz_cut (zz_cut (zz_L (zz_A i) (zz_bent (r i)) + zz_B i) + 256) / 512) → T (zj_X11_tellsFilter_154 rec Sc (nI i) z) := by
      intro z hz
      have hf := zz_fn_b hi (r i)
      have hcl : zz_clamp (zz_lo i) (zz_hi i) (zz_cut (zz_cut (zz_L (zz_A i) (zz_bent (r i)) + zz_B i) + 256) / 512) = zz_fn i (r i) + zz_lo i := by unfold zz_fn; omega
      unfold zj_X11_tellsFilter_154
      refine zT_lt (fun v11 e11 => zT_gi ei (by omega) ?_)
      rw [za_pos ei]
      refine zT_lt (fun S12 e12 => zT_lt (fun v13 e13 => ?_))
      rw [e13, zc_1, e12]
      exact hT _ (za_sub (za_l2i hz (by omega) (by omega)) (by rw [e11]; exact zq_lo i hi) (by omega) (by omega))
    have k79 : ∀ z : Int64, z.toInt = zz_bent (r i) → T (zj_X11_tellsFilter_79 rec Sc (nI i) z) := by
      intro z hz
      unfold zj_X11_tellsFilter_79
      refine zT_lt (fun v2 e2 => zT_lt (fun v3 e3 => zT_lt (fun v4 e4 => zT_lt (fun v5 e5 => zT_lt (fun v6 e6 => zT_lt (fun v7 e7 => zT_lt (fun v8 e8 => zT_lt (fun v9 e9 => ?_))))))))
      have q3 : v3.toInt = zz_L (zz_A i) (zz_bent (r i)) := by rw [e3, e2]; exact zq_lower (zb_i2l (zq_tA i hi)) hz (by omega) (by omega) (by omega) (by omega)
      have q5 : v5.toInt = zz_cut (zz_L (zz_A i) (zz_bent (r i)) + zz_B i) := by rw [e5, e4]; exact zq_cut (zb_add q3 (zb_i2l (zq_tB i hi)) (by omega) (by omega))
      have q6 : v6.toInt = zz_cut (zz_cut (zz_L (zz_A i) (zz_bent (r i)) + zz_B i) + 256) := by rw [e6]; exact zq_cut (zb_add q5 (by decide) (by omega) (by omega))
      have q7 : v7.toInt = zz_cut (zz_cut (zz_L (zz_A i) (zz_bent (r i)) + zz_B i) + 256) / 512 := by rw [e7]; exact zb_sr 9 512 q6 (by decide) (by decide) (by decide)
      have q9 : v9.toInt = zz_hi i := by rw [e9, e8, zb_sub (zb_i2l (za_neg (zq_lo i hi) (by omega))) (show (1 : Int64).toInt = 1 by decide) (by omega) (by omega)]; omega
      refine zT_if (fun c => zT_lt (fun v10 e10 => zT_if (fun c1 => ?_) (fun c1 => zT_lt (fun v14 e14 => ?_)))) (fun c => ?_)
      · rw [zb_le, q7, q9] at c
        rw [zb_le, e10, zb_i2l (zq_lo i hi), q7] at c1
        exact k154 _ (by rw [q7]; unfold zz_clamp; rw [if_neg (by omega), if_neg (by omega)])
      · rw [zb_le, e10, zb_i2l (zq_lo i hi), q7] at c1
        exact k154 _ (by rw [e14, zb_i2l (zq_lo i hi)]; unfold zz_clamp; rw [if_pos (by omega)])
      · rw [zb_le, q7, q9] at c
        exact k154 _ (by rw [q9]; unfold zz_clamp; rw [if_neg (by omega), if_pos (by omega)])
    have k59 : ∀ z : Int64, z.toInt = zz_bt (zz_size (r i)) → T (zj_X11_tellsFilter_59 rec Sc (nI i) z) := by
      intro z hz
      unfold zj_X11_tellsFilter_59
      refine zT_gi ei1 (by omega) ?_
      rw [za_pos ei1]
      refine zT_if (fun c => k79 _ ?_) (fun c => k79 _ ?_)
      · rw [zb_le, x1, show (0 : Int64).toInt = 0 by decide] at c
        rw [hz]; unfold zz_bent zz_sg; rw [if_pos c]
      · rw [zb_le, x1, show (0 : Int64).toInt = 0 by decide] at c
        rw [zb_neg hz (by omega)]; unfold zz_bent zz_sg; rw [if_neg c]
    unfold zb_X11_tellsFilter_2
    refine zT_iff (by rw [za_le, ei, show (8 : Int32).toInt = 8 by decide]; omega) (zT_gi ei1 (by omega) ?_)
    rw [za_pos ei1]
    refine zT_lt (fun v1 e1 => zT_if (fun c => zT_if (fun c1 => k59 _ ?_) (fun c1 => k59 _ ?_)) (fun c => k59 _ ?_))
    · rw [zb_le, e1, hs, show (31130 : Int64).toInt = 31130 by decide] at c1
      rw [e1, zb_mul (zb_sub hs (show (26112 : Int64).toInt = 26112 by decide) (by omega) (by omega)) (show (4 : Int64).toInt = 4 by decide) (by omega) (by omega)]
      unfold zz_bt; rw [if_pos c1]
    · rw [zb_le, e1, hs, show (31130 : Int64).toInt = 31130 by decide] at c1
      rw [zb_le, e1, hs, show (22118 : Int64).toInt = 22118 by decide] at c
      rw [e1, zb_sub hs (show (11059 : Int64).toInt = 11059 by decide) (by omega) (by omega)]
      unfold zz_bt; rw [if_neg c1, if_pos c]
    · rw [zb_le, e1, hs, show (22118 : Int64).toInt = 22118 by decide] at c
      rw [e1, zb_sr (n := 1) 1 2 hs (by decide) (by decide) (by decide)]
      unfold zz_bt; rw [if_neg (by omega), if_neg c]
  · intro S1 hF rec T hT
    unfold zb_X11_tellsFilter_2
    exact zT_ift (by decide) hT
/-! the filter of a frame -/
def zz_g (j : Nat) (p : Int) : Int := zz_cut (2 * zz_M (zz_C j) (zz_cut (zz_cut (p + zz_lo j) * 1024 - 2 * zz_B j)))
theorem zp_learn (k0 k1 : Nat) (S : zs_T) (hk : k1 ≠ k0) (h0 : k0 ≠ 3) (h1 : k1 ≠ 3) {p g : Nat → Int} (hp : ∀ t, t < 8 → (S.1 3 t).toInt = p t) (np : ∀ t, t < 8 → -1000 ≤ p t ∧ p t ≤ 1000) (hg : ∀ t, t < 8 → (S.1 k0 t).toInt = g t) :
    zQ (fun S1 => zF (fun k j => (k = k1 ∨ k = k0) ∧ j < 8) zF_0 S S1 ∧ (∀ t, t < 8 → (S1.1 k1 t).toInt = g t) ∧ ∀ t, t < 8 → (S1.1 k0 t).toInt = zz_g t (p t)) (zf_X2_learn k0 k1 3 S) := by
  unfold zf_X2_learn
  refine zQ.of (fun T hT => zT_b1 (zQ_mapII _ 8 k1 k0 hk g (fun t => zz_g t (p t)) S (by omega) ?_ ?_) (fun S1 h1 => hT S1 h1))
  · intro i Sc hi hF hU hW rec T hT
    have ei : (nI i).toInt = i := za_nI (by omega)
    have x1 : (Sc.1 3 i).toInt = p i := by rw [hF.1 3 i (by omega)]; exact hp i hi
    have x2 : (Sc.1 k0 i).toInt = g i := by rw [(hU i (by omega) hi).2]; exact hg i hi
    have hpi := np i hi
    have hB := zz_B_b i hi
    have hl := zz_lo_b i hi
    have hC := zz_C_b i hi
    have b1 := zz_cut_b (p i + zz_lo i)
    have b2 := zz_cut_b (zz_cut (p i + zz_lo i) * 1024 - 2 * zz_B i)
    have b3 := zz_M_b (zz_C i) (zz_cut (zz_cut (p i + zz_lo i) * 1024 - 2 * zz_B i))
    unfold zb_X2_learn_2
    refine zT_iff (by rw [za_le, ei, show (8 : Int32).toInt = 8 by decide]; omega) (zT_gi ei (by omega) (zT_gi ei (by omega) ?_))
    rw [za_pos ei]
    refine zT_lt (fun S1 e1 => zT_gi ei (by omega) (zT_gi ei (by omega) (zT_lt (fun v2 e2 => zT_lt (fun v3 e3 => zT_gi ei (by omega) (zT_gi ei (by omega) (zT_lt (fun v4 e4 => zT_lt (fun v5 e5 => zT_lt (fun v6 e6 => zT_gi ei (by omega) (zT_lt (fun S7 e7 => zT_lt (fun v8 e8 => ?_)))))))))))))
    have y1 : (S1.1 3 i).toInt = p i := by rw [e1, zs_in _ _ (by omega)]; exact x1
    have q2 : v2.toInt = zz_cut (p i + zz_lo i) := by rw [e2]; exact zp_cut (za_add (y := zz_lo i) y1 rfl (by omega) (by omega))
    have q3 : v3.toInt = zz_cut (p i + zz_lo i) * 1024 := by rw [e3]; exact za_mul q2 (by decide) (by omega) (by omega)
    have q4 : v4.toInt = zz_cut (zz_cut (p i + zz_lo i) * 1024 - 2 * zz_B i) := by rw [e4]; exact zp_cut (za_sub q3 (za_mul (y := zz_B i) (by decide) rfl (by omega) (by omega)) (by omega) (by omega))
    have q5 : v5.toInt = zz_M (zz_C i) (zz_cut (zz_cut (p i + zz_lo i) * 1024 - 2 * zz_B i)) := by rw [e5]; exact zp_rounded (x := zz_C i) rfl q4 (by omega) (by omega) (by omega) (by omega)
    rw [e8, zc_1, e7, e1]
    refine hT _ _ x2 ?_
    rw [e6]; exact zp_cut (za_mul (by decide) q5 (by omega) (by omega))
  · intro S1 hF rec T hT
    unfold zb_X2_learn_2
    exact zT_ift (by decide) hT
theorem zq_makesG (S : zs_T) {p : Nat → Int} (hp : ∀ t, t < 8 → (S.1 43 t).toInt = p t) (np : ∀ t, t < 8 → -1000 ≤ p t ∧ p t ≤ 1000) :
    zQ (fun S1 => zF zF_0 (fun k j => k = 57 ∧ j < 8) S S1 ∧ ∀ t, t < 8 → (S1.2 57 t).toInt = zz_g t (p t)) (zf_X11_makesG S) := by
  unfold zf_X11_makesG
  refine zQ.of (fun T hT => zT_b1 (zQ_mapL _ 8 57 (fun t => t) (fun j => j < 8) (fun t => zz_g t (p t)) S (fun s t _ _ h => h) (fun t h => h) (by omega) ?_ ?_) (fun S1 h1 => hT S1 h1))
  · intro i Sc hi hF hU hW rec T hT
    have ei : (nI i).toInt = i := za_nI (by omega)
    have x1 : (Sc.1 43 i).toInt = p i := by rw [hF.1 43 i (fun z => z)]; exact hp i hi
    have hpi := np i hi
    have hB := zz_B_b i hi
    have hl := zz_lo_b i hi
    have hC := zz_C_b i hi
    have b1 := zz_cut_b (p i + zz_lo i)
    have b2 := zz_cut_b (zz_cut (p i + zz_lo i) * 1024 - 2 * zz_B i)
    have b3 := zz_M_b (zz_C i) (zz_cut (zz_cut (p i + zz_lo i) * 1024 - 2 * zz_B i))
    unfold zb_X11_makesG_2
    refine zT_iff (by rw [za_le, ei, show (8 : Int32).toInt = 8 by decide]; omega) (zT_gi ei (by omega) ?_)
    rw [za_pos ei]
    refine zT_lt (fun v1 e1 => zT_lt (fun v2 e2 => zT_lt (fun v3 e3 => zT_lt (fun v4 e4 => zT_lt (fun v5 e5 => zT_lt (fun v6 e6 => zT_lt (fun v7 e7 => zT_gi ei (by omega) (zT_lt (fun S8 e8 => zT_lt (fun v9 e9 => ?_))))))))))
    have q2 : v2.toInt = zz_cut (p i + zz_lo i) := by rw [e2, e1]; exact zq_cut (zb_i2l (za_add x1 (zq_lo i hi) (by omega) (by omega)))
    have q4 : v4.toInt = zz_cut (zz_cut (p i + zz_lo i) * 1024 - 2 * zz_B i) := by rw [e4, e3]; exact zq_cut (zb_sub (zb_mul q2 (by decide) (by omega) (by omega)) (zb_mul (by decide) (zb_i2l (zq_tB i hi)) (by omega) (by omega)) (by omega) (by omega))
    have q6 : v6.toInt = zz_M (zz_C i) (zz_cut (zz_cut (p i + zz_lo i) * 1024 - 2 * zz_B i)) := by rw [e6, e5]; exact zq_rounded (zb_i2l (zq_tC i hi)) q4 (by omega) (by omega) (by omega) (by omega)
    rw [e9, zc_1, e8]
    refine hT _ ?_
    rw [e7]; exact zq_cut (zb_mul (by decide) q6 (by omega) (by omega))
  · intro S1 hF rec T hT
    unfold zb_X11_makesG_2
    exact zT_ift (by decide) hT
