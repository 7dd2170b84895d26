/-! the thinning: what the past can't tell, every third of it -/
def zz_G (i : Nat) : Int := (zt_v8 i).toInt
theorem zz_G_b : ∀ i, i < 4 → 3277 ≤ zz_G i ∧ zz_G i ≤ 32767 := by decide
theorem zq_tG : ∀ i, i < 4 → (zf_X11_tableG (nI i)).toInt = zz_G i := by decide
def zz_wv (gain : Nat) (c : Nat → Int) (q back t : Nat) : Int := zz_M (zz_G gain) (c (q + t - back))
theorem zp_look (k0 k1 : Nat) (hk : k0 ≠ k1) (S : zs_T) {a1 a2 a3 : Int32} {p back gain : Nat} (h1 : a1.toInt = p) (hp : p < 4) (h2 : a2.toInt = back) (hb1 : 40 ≤ back) (hb2 : back ≤ 120) (h3 : a3.toInt = gain) (hg : gain < 4) {c : Nat → Int} (hc : ∀ t, t < 120 + 40 * p → (S.1 k0 t).toInt = c t) (nc : ∀ t, t < 120 + 40 * p → -32768 ≤ c t ∧ c t ≤ 32767) :
    zQ (fun S1 => zF (fun k j => k = k1 ∧ j < 40) zF_0 S S1 ∧ ∀ t, t < 40 → (S1.1 k1 t).toInt = zz_wv gain c (120 + 40 * p) back t) (zf_X5_look k0 k1 S a1 a2 a3) := by
  have e40 := za_mul (show (40 : Int32).toInt = 40 by decide) h1 (by omega) (by omega)
  have hG := zz_G_b gain hg
  unfold zf_X5_look
  refine zQ.of (fun T hT => zT_b1 (zQ_mapI _ 40 k1 (fun t => t) (fun j => j < 40) (zz_wv gain c (120 + 40 * p) back) S (fun s t _ _ h => h) (fun t h => h) (by omega) ?_ ?_) (fun S5 h5 => hT _ h5))
  · intro i Sc hi hF hU hW rec T hT
    have ei : (nI i).toInt = i := za_nI (by omega)
    unfold zb_X5_look_3
    refine zT_iff (by rw [za_le, ei, show (40 : Int32).toInt = 40 by decide]; omega) (zT_gi h3 hg ?_)
    rw [za_pos h3]
    refine zT_lt (fun v1 e1 => ?_)
    have q1 : v1.toInt = ((120 + 40 * p : Nat) : Int) := by
      rw [e1]; unfold zf_X5_from
      have := za_add (show (120 : Int32).toInt = 120 by decide) e40 (by omega) (by omega); omega
    have eat : (v1 + nI i - a2).toInt = ((120 + 40 * p + i - back : Nat) : Int) := by have := za_sub (za_add q1 ei (by omega) (by omega)) h2 (by omega) (by omega); omega
    have nci := nc (120 + 40 * p + i - back) (by omega)
    refine zT_gi eat (by omega) ?_
    rw [za_pos eat]
    refine zT_lt (fun v2 e2 => zT_gi ei hi ?_)
    rw [za_pos ei]
    refine zT_lt (fun S3 e3 => zT_lt (fun v4 e4 => ?_))
    rw [e4, zc_1, e3]
    refine hT _ ?_
    rw [e2]
    exact zp_rounded (x := zz_G gain) rfl (by rw [hF.1 k0 _ (fun z => hk z.1)]; exact hc _ (by omega)) (by omega) (by omega) (by omega) (by omega)
  · intro S1 hF rec T hT
    unfold zb_X5_look_3
    exact zT_ift (by decide) hT
theorem zz_sum_bw {f B : Nat → Int} : ∀ n, (∀ t, t < n → -(B t) ≤ f t ∧ f t ≤ B t) → -(zz_sum B n) ≤ zz_sum f n ∧ zz_sum f n ≤ zz_sum B n := by
  intro n
  induction n with
  | zero => intro _; simp [zz_sum]
  | succ n ih =>
    intro h
    have h1 := ih (fun t ht => h t (by omega))
    have h2 := h n (by omega)
    simp only [zz_sum]
    omega
def zz_H (i : Nat) : Int := (zt_v10 i).toInt
def zz_Ha (i : Nat) : Int := if zz_H i < 0 then -(zz_H i) else zz_H i
theorem zz_Ha_s : ∀ n, n < 12 → zz_sum (fun t => zz_Ha t * 32768) n ≤ 812580864 := by decide
theorem zq_tH : ∀ i, i < 11 → (zf_X11_tableH (nI i)).toInt = zz_H i := by decide
def zz_ee (e : Nat → Int) (m : Nat) : Int := if 5 ≤ m ∧ m < 45 then e (m - 5) else 0
theorem zz_ee_b {e : Nat → Int} (he : ∀ t, t < 40 → -32768 ≤ e t ∧ e t ≤ 32767) (m : Nat) : -32768 ≤ zz_ee e m ∧ zz_ee e m ≤ 32767 := by
  unfold zz_ee
  by_cases c : 5 ≤ m ∧ m < 45
  · rw [if_pos c]; exact he (m - 5) (by omega)
  · rw [if_neg c]; omega
def zz_fs (e : Nat → Int) (k : Nat) : Nat → Int := zz_sum (fun i => zz_H i * zz_ee e (k + i))
def zz_fx2 (e : Nat → Int) (k : Nat) : Int := zz_cut ((4096 + zz_fs e k 11) / 8192)
theorem zz_hm {e : Nat → Int} (he : ∀ t, t < 40 → -32768 ≤ e t ∧ e t ≤ 32767) (k t : Nat) : -(zz_Ha t * 32768) ≤ zz_H t * zz_ee e (k + t) ∧ zz_H t * zz_ee e (k + t) ≤ zz_Ha t * 32768 := by
  have hb := zz_ee_b he (k + t)
  exact zn_mul (A := zz_Ha t) (B := 32768) (by unfold zz_Ha; split <;> omega) (by unfold zz_Ha; split <;> omega) hb.1 (by omega)
theorem zz_fs_b {e : Nat → Int} (he : ∀ t, t < 40 → -32768 ≤ e t ∧ e t ≤ 32767) (k : Nat) : ∀ n, n < 12 → -812580864 ≤ zz_fs e k n ∧ zz_fs e k n ≤ 812580864 := by
  intro n hn
  have h1 := zz_sum_bw (f := fun i => zz_H i * zz_ee e (k + i)) (B := fun t => zz_Ha t * 32768) n (fun t ht => zz_hm he k t)
  have h2 := zz_Ha_s n hn
  unfold zz_fs; omega
theorem zp_filtered (S : zs_T) {a1 : Int32} {k : Nat} (h1 : a1.toInt = k) (hk : k < 40) {e : Nat → Int} (he : ∀ m, m < 50 → (S.1 25 m).toInt = zz_ee e m) (ne : ∀ t, t < 40 → -32768 ≤ e t ∧ e t ≤ 32767) :
    zQ (fun o => o.toInt = zz_fx2 e k) (zf_X9_filtered S a1) := by
  unfold zf_X9_filtered
  refine zQ.of (fun T hT => zT_b1 (zQ_for _ 11 (fun i a => a.toInt = 4096 + zz_fs e k i) (fun o => o.toInt = 4096 + zz_fs e k 11) ?_ ?_ 600 0 (4096 : Int32) (by omega) (by omega) rfl) (fun v3 h3 => zT_lt (fun v4 e4 => hT _ ?_)))
  · intro i a hi ha rec T hT
    have ei : (nI i).toInt = i := za_nI (by omega)
    have eq : (a1 + nI i).toInt = ((k + i : Nat) : Int) := by have := za_add h1 ei (by omega) (by omega); omega
    have b1 := zz_fs_b ne k i (by omega)
    have b2 := zz_fs_b ne k (i + 1) (by omega)
    have es : zz_fs e k (i + 1) = zz_fs e k i + zz_H i * zz_ee e (k + i) := rfl
    unfold zb_X9_filtered_6
    refine zT_iff (by rw [za_le, ei, show (11 : Int32).toInt = 11 by decide]; omega) (zT_gi ei hi (zT_gi eq (by omega) ?_))
    rw [za_pos ei, za_pos eq]
    refine zT_lt (fun v1 e1 => zT_lt (fun v2 e2 => ?_))
    rw [e2, zc_1]
    refine hT _ ?_
    rw [e1, za_add ha (za_mul (x := zz_H i) rfl (he (k + i) (by omega)) (by omega) (by omega)) (by omega) (by omega), es]
    omega
  · intro a ha rec T hT
    unfold zb_X9_filtered_6
    exact zT_ift (by decide) (hT _ ha)
  · rw [e4]; exact zp_cut (za_sr (n := 13) 13 8192 h3 (by decide) (by decide) (by decide))
/-! the grid -/
def zz_gs (x : Nat → Int) (g : Nat) : Int := zz_sum (fun i => x (g + 3 * i) / 4 * (x (g + 3 * i) / 4)) 13
def zz_gd (s : Nat → Int) : Nat → Int × Nat
  | 0 => (0, 0)
  | i + 1 => if (zz_gd s i).1 < s i then (s i, i) else zz_gd s i
theorem zz_gs_s {x : Nat → Int} (hx : ∀ t, t < 40 → -32768 ≤ x t ∧ x t ≤ 32767) {g : Nat} (hg : g < 4) : ∀ n, n ≤ 13 → 0 ≤ zz_sum (fun i => x (g + 3 * i) / 4 * (x (g + 3 * i) / 4)) n ∧ zz_sum (fun i => x (g + 3 * i) / 4 * (x (g + 3 * i) / 4)) n ≤ 872415232 := by
  intro n hn
  have h1 := zz_sum_b (f := fun i => x (g + 3 * i) / 4 * (x (g + 3 * i) / 4)) (B := 67108864) n (fun t ht => by
    have h2 := hx (g + 3 * t) (by omega)
    exact zn_mul (A := 8192) (B := 8192) (by omega) (by omega) (by omega) (by omega))
  have h2 := zz_sum_0 (g := fun i => x (g + 3 * i) / 4 * (x (g + 3 * i) / 4)) (fun t => by have := zz_sq2 (x (g + 3 * t) / 4) (x (g + 3 * t) / 4); omega) n
  omega
theorem zz_gd_b (s : Nat → Int) : ∀ i, 0 ≤ (zz_gd s i).1 ∧ ((zz_gd s i).2 < i ∨ (zz_gd s i).2 = 0) := by
  intro i
  induction i with
  | zero => exact ⟨Int.le_refl 0, Or.inr rfl⟩
  | succ i ih =>
    simp only [zz_gd]
    split
    · exact ⟨by omega, Or.inl (by omega)⟩
    · exact ⟨ih.1, by omega⟩
def zz_grid (x : Nat → Int) : Nat := (zz_gd (zz_gs x) 4).2
theorem zz_grid_b (x : Nat → Int) : zz_grid x < 4 := by have := zz_gd_b (zz_gs x) 4; unfold zz_grid; omega
theorem zp_grid (S : zs_T) {x : Nat → Int} (hx : ∀ t, t < 40 → (S.1 26 t).toInt = x t) (nx : ∀ t, t < 40 → -32768 ≤ x t ∧ x t ≤ 32767) : zQ (fun o => o.toInt = ((zz_grid x : Nat) : Int)) (zf_X9_loudestGrid S) := by
  unfold zf_X9_loudestGrid
  refine zQ.of (fun T hT => zT_b1 (zQ_for3 _ 4 (fun i l b => l.toInt = (((zz_gd (zz_gs x) i).2 : Nat) : Int) ∧ b.toInt = (zz_gd (zz_gs x) i).1) (fun o => o.toInt = ((zz_grid x : Nat) : Int)) ?_ ?_ 600 0 (0 : Int32) (0 : Int32) (by omega) (by omega) ⟨rfl, rfl⟩) (fun o ho => hT o ho))
  · intro g l b hg hP rec T hT
    obtain ⟨hl, hb⟩ := hP
    have eg : (nI g).toInt = g := za_nI (by omega)
    unfold zb_X9_loudestGrid_6
    refine zT_iff (by rw [za_le, eg, show (4 : Int32).toInt = 4 by decide]; omega) (zT_b1 (P := fun o => o.toInt = zz_gs x g) (zQ_sumI _ 0 13 (fun i => x (g + 3 * i) / 4 * (x (g + 3 * i) / 4)) (by omega) (by omega) ?_ ?_ (0 : Int32) rfl) (fun v4 h4 => zT_if (fun cc => zT_lt (fun v5 e5 => ?_)) (fun cc => zT_lt (fun v5 e5 => ?_))))
    · intro i a _ hi ha rec T hT
      rw [Nat.sub_zero] at ha hT
      have ei : (nI i).toInt = i := za_nI (by omega)
      have eq : (nI g + (3 : Int32) * nI i).toInt = ((g + 3 * i : Nat) : Int) := by have := za_add eg (za_mul (show (3 : Int32).toInt = 3 by decide) ei (by omega) (by omega)) (by omega) (by omega); omega
      have n2 := nx (g + 3 * i) (by omega)
      have hm := zn_mul (a := x (g + 3 * i) / 4) (b := x (g + 3 * i) / 4) (A := 8192) (B := 8192) (by omega) (by omega) (by omega) (by omega)
      have hs := zz_gs_s nx hg i (by omega)
      have hs1 := zz_gs_s nx hg (i + 1) (by omega)
      simp only [zz_sum] at hs1
      unfold zb_X9_loudestGrid_17
      refine zT_iff (by rw [za_le, ei, show (13 : Int32).toInt = 13 by decide]; omega) (zT_gi eq (by omega) ?_)
      rw [za_pos eq]
      refine zT_lt (fun v1 e1 => zT_lt (fun v2 e2 => zT_lt (fun v3 e3 => ?_)))
      have q1 : v1.toInt = x (g + 3 * i) / 4 := by rw [e1]; exact za_sr (n := 2) 2 4 (hx _ (by omega)) (by decide) (by decide) (by decide)
      rw [e3, zc_1]
      refine hT _ ?_
      rw [e2, za_add ha (za_mul q1 q1 (by omega) (by omega)) (by omega) (by omega)]
    · intro a rec T hT
      unfold zb_X9_loudestGrid_17
      exact zT_ift (by decide) hT
    · rw [za_le, h4, hb] at cc
      have es : zz_gd (zz_gs x) (g + 1) = zz_gd (zz_gs x) g := by simp only [zz_gd]; rw [if_neg (by omega)]
      rw [e5, zc_1]
      exact hT _ _ ⟨by rw [es]; exact hl, by rw [es]; exact hb⟩
    · rw [za_le, h4, hb] at cc
      have es : zz_gd (zz_gs x) (g + 1) = (zz_gs x g, g) := by simp only [zz_gd]; rw [if_pos (by omega)]
      rw [e5, zc_1]
      exact hT _ _ ⟨by rw [es]; exact eg, by rw [es]; exact h4⟩
  · intro l b hP rec T hT
    unfold zb_X9_loudestGrid_6
    exact zT_ift (by decide) (hT _ hP.1)
/-! the height -/
def zz_stp (s : Int) : Nat → Nat
  | 0 => 0
  | i + 1 => zz_stp s i + (if 2 ^ (9 + i) ≤ s then 1 else 0)
def zz_ht (s : Int) : Nat := (s / 2 ^ (zz_stp s 6 + 5)).toNat + 8 * zz_stp s 6
theorem zz_stp_b (s : Int) : ∀ i, zz_stp s i ≤ i := by
  intro i
  induction i with
  | zero => exact Nat.le_refl 0
  | succ i ih => simp only [zz_stp]; split <;> omega
theorem zz_stp_6 {s : Int} (h1 : s ≤ 32767) : (zz_stp s 6 = 0 ∧ s < 512) ∨ (zz_stp s 6 = 1 ∧ 512 ≤ s ∧ s < 1024) ∨ (zz_stp s 6 = 2 ∧ 1024 ≤ s ∧ s < 2048) ∨ (zz_stp s 6 = 3 ∧ 2048 ≤ s ∧ s < 4096) ∨ (zz_stp s 6 = 4 ∧ 4096 ≤ s ∧ s < 8192) ∨ (zz_stp s 6 = 5 ∧ 8192 ≤ s ∧ s < 16384) ∨ (zz_stp s 6 = 6 ∧ 16384 ≤ s ∧ s < 32768) := by
  have e : zz_stp s 6 = (if (512 : Int) ≤ s then 1 else 0) + (if (1024 : Int) ≤ s then 1 else 0) + (if (2048 : Int) ≤ s then 1 else 0) + (if (4096 : Int) ≤ s then 1 else 0) + (if (8192 : Int) ≤ s then 1 else 0) + (if (16384 : Int) ≤ s then 1 else 0) := by
    simp [zz_stp]
  rw [e]
  by_cases c1 : (512 : Int) ≤ s
  · by_cases c2 : (1024 : Int) ≤ s
    · by_cases c3 : (2048 : Int) ≤ s
      · by_cases c4 : (4096 : Int) ≤ s
        · by_cases c5 : (8192 : Int) ≤ s
          · by_cases c6 : (16384 : Int) ≤ s
            · rw [if_pos c1, if_pos c2, if_pos c3, if_pos c4, if_pos c5, if_pos c6]; omega
            · rw [if_pos c1, if_pos c2, if_pos c3, if_pos c4, if_pos c5, if_neg c6]; omega
          · rw [if_pos c1, if_pos c2, if_pos c3, if_pos c4, if_neg c5, if_neg (by omega)]; omega
        · rw [if_pos c1, if_pos c2, if_pos c3, if_neg c4, if_neg (by omega), if_neg (by omega)]; omega
      · rw [if_pos c1, if_pos c2, if_neg c3, if_neg (by omega), if_neg (by omega), if_neg (by omega)]; omega
    · rw [if_pos c1, if_neg c2, if_neg (by omega), if_neg (by omega), if_neg (by omega), if_neg (by omega)]; omega
  · rw [if_neg c1, if_neg (by omega), if_neg (by omega), if_neg (by omega), if_neg (by omega), if_neg (by omega)]; omega
theorem zz_ht_ok {s : Int} (h0 : 0 ≤ s) (h1 : s ≤ 32767) : zz_stp s 6 ≤ 6 ∧ 0 ≤ s / 2 ^ (zz_stp s 6 + 5) ∧ s / 2 ^ (zz_stp s 6 + 5) < 16 ∧ (1 ≤ zz_stp s 6 → 8 ≤ s / 2 ^ (zz_stp s 6 + 5)) := by
  rcases zz_stp_6 h1 with h | h | h | h | h | h | h <;> rw [h.1] <;> simp <;> omega
theorem zz_ht_b {s : Int} (h0 : 0 ≤ s) (h1 : s ≤ 32767) : zz_ht s < 64 := by have := zz_ht_ok h0 h1; unfold zz_ht; omega
theorem zz_sdiv {s : Int} (h0 : 0 ≤ s) (k : Nat) : ¬ (s / 2 ^ k ≤ 0) ↔ 2 ^ k ≤ s := by
  have hp : (0 : Int) < 2 ^ k := Int.pow_pos (by omega)
  have := Int.le_ediv_iff_mul_le (a := 1) (b := s) hp
  rw [Int.one_mul] at this
  omega
theorem zp_heightOf {a1 : Int32} {s : Int} (h1 : a1.toInt = s) (h0 : 0 ≤ s) (hs : s ≤ 32767) : zQ (fun o => o.toInt = ((zz_ht s : Nat) : Int)) (zf_X9_heightOf a1) := by
  have hok := zz_ht_ok h0 hs
  unfold zf_X9_heightOf
  refine zQ.of (fun T hT => zT_b1 (zQ_for _ 6 (fun i a => a.toInt = ((zz_stp s i : Nat) : Int)) (fun o => o.toInt = ((zz_stp s 6 : Nat) : Int)) ?_ ?_ 600 0 (0 : Int32) (by omega) (by omega) rfl) (fun v5 h5 => hT _ ?_))
  · intro i a hi ha rec T hT
    have ei : (nI i).toInt = i := za_nI (by omega)
    have e9 : ((9 : Int32) + nI i).toInt = ((9 + i : Nat) : Int) := by have := za_add (show (9 : Int32).toInt = 9 by decide) ei (by omega) (by omega); omega
    have esh := za_shr h1 e9 (by omega)
    have hb := zz_stp_b s i
    have hd := zz_sdiv h0 (9 + i)
    unfold zb_X9_heightOf_4
    refine zT_iff (by rw [za_lt, ei, show (5 : Int32).toInt = 5 by decide]; omega) (zT_if (fun cc => zT_lt (fun v1 e1 => zT_lt (fun v2 e2 => ?_))) (fun cc => zT_lt (fun v1 e1 => zT_lt (fun v2 e2 => ?_))))
    · rw [za_le, esh, show (0 : Int32).toInt = 0 by decide] at cc
      rw [e2, zc_1]
      refine hT _ ?_
      rw [e1, za_add ha (show (0 : Int32).toInt = 0 by decide) (by omega) (by omega)]
      simp only [zz_stp]
      rw [if_neg (fun z => hd.mpr z cc)]; omega
    · rw [za_le, esh, show (0 : Int32).toInt = 0 by decide] at cc
      rw [e2, zc_1]
      refine hT _ ?_
      rw [e1, za_add ha (show (1 : Int32).toInt = 1 by decide) (by omega) (by omega)]
      simp only [zz_stp]
      rw [if_pos (hd.mp cc)]; omega
  · intro a ha rec T hT
    unfold zb_X9_heightOf_4
    exact zT_ift (by decide) (hT _ ha)
  · have e5 : (v5 + (5 : Int32)).toInt = ((zz_stp s 6 + 5 : Nat) : Int) := by have := za_add h5 (show (5 : Int32).toInt = 5 by decide) (by omega) (by omega); omega
    rw [za_add (za_shr h1 e5 (by omega)) (za_mul (show (8 : Int32).toInt = 8 by decide) h5 (by omega) (by omega)) (by omega) (by omega)]
    unfold zz_ht; omega
/-! the whole of it -/
def zz_hx (x : Nat → Int) : Int := zz_max (fun i => zz_size (x (zz_grid x + 3 * i))) 13
theorem zp_thin (S : zs_T) {a1 : Int32} {p : Nat} (h1 : a1.toInt = p) (hp : p < 4) {d w : Nat → Int} (hd : ∀ t, t < 40 → (S.1 6 (40 * p + t)).toInt = d t) (nd : ∀ t, t < 40 → -32768 ≤ d t ∧ d t ≤ 32767) (hw : ∀ t, t < 40 → (S.1 21 t).toInt = w t) (nw : ∀ t, t < 40 → -32768 ≤ w t ∧ w t ≤ 32767) (hz : ∀ m, m < 50 → (m < 5 ∨ 45 ≤ m) → (S.1 25 m).toInt = 0) {x : Nat → Int} (hx : x = zz_fx2 (fun t => zz_cut (d t - w t))) :
    zQ (fun S1 => zF (fun k j => (k = 25 ∧ 5 ≤ j ∧ j < 45) ∨ (k = 26 ∧ j < 40) ∨ (k = 24 ∧ (j = 2 ∨ j = 3))) zF_0 S S1 ∧ (∀ t, t < 40 → (S1.1 26 t).toInt = x t) ∧ (S1.1 24 2).toInt = ((zz_grid x : Nat) : Int) ∧ (S1.1 24 3).toInt = ((zz_ht (zz_hx x) : Nat) : Int)) (zf_X9_thin S a1) := by
  have e40 := za_mul (show (40 : Int32).toInt = 40 by decide) h1 (by omega) (by omega)
  have nx : ∀ t, t < 40 → -32768 ≤ x t ∧ x t ≤ 32767 := fun t _ => by rw [hx]; exact zz_cut_b _
  refine zQ.of (fun T hT => ?_)
  unfold zf_X9_thin
  refine zT_b1 (zQ_mapI _ 40 25 (fun t => 5 + t) (fun j => 5 ≤ j ∧ j < 45) (fun t => zz_cut (d t - w t)) S (fun s t _ _ h => by omega) (fun t h => by omega) (by omega) ?_ ?_) (fun S4 h4 => ?_)
  · intro i Sc hi hF hU hW rec T hT
    have ei : (nI i).toInt = i := za_nI (by omega)
    have eq : ((40 : Int32) * a1 + nI i).toInt = ((40 * p + i : Nat) : Int) := by have := za_add e40 ei (by omega) (by omega); omega
    have e5 : ((5 : Int32) + nI i).toInt = ((5 + i : Nat) : Int) := by have := za_add (show (5 : Int32).toInt = 5 by decide) ei (by omega) (by omega); omega
    have n1 := nd i hi
    have n2 := nw i hi
    unfold zb_X9_thin_3
    refine zT_iff (by rw [za_le, ei, show (40 : Int32).toInt = 40 by decide]; omega) (zT_gi eq (by omega) (zT_gi ei hi ?_))
    rw [za_pos eq, za_pos ei]
    refine zT_lt (fun v1 e1 => zT_gi e5 (by omega) ?_)
    rw [za_pos e5]
    refine zT_lt (fun S2 e2 => zT_lt (fun v3 e3 => ?_))
    rw [e3, zc_1, e2]
    refine hT _ ?_
    rw [e1]
    exact zp_cut (za_sub (by rw [hF.1 6 _ (by omega)]; exact hd i hi) (by rw [hF.1 21 _ (by omega)]; exact hw i hi) (by omega) (by omega))
  · intro S1 hF rec T hT
    unfold zb_X9_thin_3
    exact zT_ift (by decide) hT
  · have he4 : ∀ m, m < 50 → (S4.1 25 m).toInt = zz_ee (fun t => zz_cut (d t - w t)) m := by
      intro m hm
      unfold zz_ee
      by_cases c : 5 ≤ m ∧ m < 45
      · rw [if_pos c]
        have := h4.2 (m - 5) (by omega)
        rw [show 5 + (m - 5) = m by omega] at this
        exact this
      · rw [if_neg c, h4.1.1 25 m (by omega)]; exact hz m hm (by omega)
    refine zT_b1 (zQ_mapI _ 40 26 (fun t => t) (fun j => j < 40) x S4 (fun s t _ _ h => h) (fun t h => h) (by omega) ?_ ?_) (fun S8 h8 => ?_)
    · intro i Sc hi hF hU hW rec T hT
      have ei : (nI i).toInt = i := za_nI (by omega)
      unfold zb_X9_thin_45
      refine zT_iff (by rw [za_le, ei, show (40 : Int32).toInt = 40 by decide]; omega) (zT_b1 (zp_filtered Sc ei hi (e := fun t => zz_cut (d t - w t)) (fun m hm => by rw [hF.1 25 m (by omega)]; exact he4 m hm) (fun t _ => zz_cut_b _)) (fun v5 h5 => zT_gi ei hi ?_))
      rw [za_pos ei]
      refine zT_lt (fun S6 e6 => zT_lt (fun v7 e7 => ?_))
      rw [e7, zc_1, e6]
      exact hT _ (by rw [h5, hx])
    · intro S1 hF rec T hT
      unfold zb_X9_thin_45
      exact zT_ift (by decide) hT
    · refine zT_b1 (zp_grid S8 h8.2 nx) (fun v9 h9 => zT_lt (fun S10 e10 => ?_))
      have hgb := zz_grid_b x
      have hxb : 0 ≤ zz_hx x ∧ zz_hx x ≤ 32767 := zz_max_b (B := 32767) (by omega) 13 (fun t _ => (zz_size_b _).2)
      have g10 : (S10.1 24 2).toInt = ((zz_grid x : Nat) : Int) := by rw [e10, zs_ii]; exact h9
      have x10 : ∀ t, t < 40 → (S10.1 26 t).toInt = x t := fun t ht => by rw [e10, zs_in _ _ (by omega)]; exact h8.2 t ht
      refine zT_b1 (zp_great 26 40 S10 (q := zz_grid x) (d := 3) (n := 13) g10 (by decide) (by decide) (by omega) (by omega) (by omega) (fun t ht => by omega) (x := fun i => x (zz_grid x + 3 * i)) (fun t ht => x10 _ (by omega)) (fun t ht => nx _ (by omega))) (fun v11 h11 => zT_b1 (zp_heightOf h11 hxb.1 hxb.2) (fun v12 h12 => zT_lt (fun S13 e13 => hT _ ⟨?_, fun t ht => ?_, ?_, ?_⟩)))
      · rw [e13]
        refine zF.wi ?_ _ (Or.inr (Or.inr ⟨rfl, Or.inr rfl⟩))
        rw [e10]
        refine zF.wi ?_ _ (Or.inr (Or.inr ⟨rfl, Or.inl rfl⟩))
        exact (h4.1.mo (fun k j h => by omega) (fun _ _ h => h)).tr (h8.1.mo (fun k j h => by omega) (fun _ _ h => h))
      · rw [e13, zs_in _ _ (by omega)]; exact x10 t ht
      · rw [e13, zs_in _ _ (by omega)]; exact g10
      · rw [e13, zs_ii]; exact h12
