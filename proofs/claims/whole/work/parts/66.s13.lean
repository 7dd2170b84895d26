/-! the reference's thinning -/
theorem zq_enc76 (S : zs_T) {f1 f2 : Int32} {p back gain : Nat} (h1 : f1.toInt = p) (hp : p < 4) (h2 : f2.toInt = ((120 + 40 * p : Nat) : Int)) (hb1 : 40 ≤ back) (hb2 : back ≤ 120) (hg : gain < 4) (hbk : (S.1 43 (8 + 17 * p)).toInt = (back : Int)) (hgn : (S.1 43 (9 + 17 * p)).toInt = (gain : Int)) {c d : Nat → Int} (hc : ∀ t, t < 120 + 40 * p → (S.2 48 t).toInt = c t) (nc : ∀ t, t < 120 + 40 * p → -32768 ≤ c t ∧ c t ≤ 32767) (hd : ∀ t, t < 40 → (S.2 50 (40 * p + t)).toInt = d t) (nd : ∀ t, t < 40 → -32768 ≤ d t ∧ d t ≤ 32767) :
    zQ (fun S1 => zF zF_0 (fun k j => (k = 48 ∧ 120 + 40 * p ≤ j ∧ j < 160 + 40 * p) ∨ (k = 51 ∧ j < 40)) S S1 ∧ (∀ t, t < 40 → (S1.2 48 (120 + 40 * p + t)).toInt = zz_wv gain c (120 + 40 * p) back t) ∧ ∀ t, t < 40 → (S1.2 51 t).toInt = zz_cut (d t - zz_wv gain c (120 + 40 * p) back t)) (zl_2 (zb_X11_encode_76 f1 f2) 600 S (0 : Int32)) := by
  have e17 := za_mul (show (17 : Int32).toInt = 17 by decide) h1 (by omega) (by omega)
  have e8 : ((8 : Int32) + (17 : Int32) * f1).toInt = ((8 + 17 * p : Nat) : Int) := by have := za_add (show (8 : Int32).toInt = 8 by decide) e17 (by omega) (by omega); omega
  have e9 : ((9 : Int32) + (17 : Int32) * f1).toInt = ((9 + 17 * p : Nat) : Int) := by have := za_add (show (9 : Int32).toInt = 9 by decide) e17 (by omega) (by omega); omega
  have e40 := za_mul (show (40 : Int32).toInt = 40 by decide) h1 (by omega) (by omega)
  have hG := zz_G_b gain hg
  refine zQ_for _ 40 (fun i S1 => zF zF_0 (fun k j => (k = 48 ∧ 120 + 40 * p ≤ j ∧ j < 160 + 40 * p) ∨ (k = 51 ∧ j < 40)) S S1 ∧ (∀ t, t < i → (S1.2 48 (120 + 40 * p + t)).toInt = zz_wv gain c (120 + 40 * p) back t) ∧ ∀ t, t < i → (S1.2 51 t).toInt = zz_cut (d t - zz_wv gain c (120 + 40 * p) back t)) _ ?_ ?_ 600 0 S (by omega) (by omega) ⟨zF.rf S, fun t ht => absurd ht (Nat.not_lt_zero t), fun t ht => absurd ht (Nat.not_lt_zero t)⟩
  · intro i Sc hi hP rec T hT
    obtain ⟨hF, hw, he⟩ := hP
    have ei : (nI i).toInt = i := za_nI (by omega)
    have q8 : (Sc.1 43 (8 + 17 * p)).toInt = (back : Int) := by rw [hF.1 43 _ (fun z => z)]; exact hbk
    have q9 : Sc.1 43 (9 + 17 * p) = nI gain := za_of (by rw [hF.1 43 _ (fun z => z)]; exact hgn)
    have ef := za_add h2 ei (by omega) (by omega)
    have ef1 : (f2 + nI i).toInt = ((120 + 40 * p + i : Nat) : Int) := by omega
    have eat : (f2 + nI i - Sc.1 43 (8 + 17 * p)).toInt = ((120 + 40 * p + i - back : Nat) : Int) := by have := za_sub ef q8 (by omega) (by omega); omega
    have eq : ((40 : Int32) * f1 + nI i).toInt = ((40 * p + i : Nat) : Int) := by have := za_add e40 ei (by omega) (by omega); omega
    have nci := nc (120 + 40 * p + i - back) (by omega)
    have ndi := nd i hi
    have b := zz_M_b (zz_G gain) (c (120 + 40 * p + i - back))
    unfold zb_X11_encode_76
    refine zT_iff (by rw [za_le, ei, show (40 : Int32).toInt = 40 by decide]; omega) (zT_gi e9 (by omega) ?_)
    rw [za_pos e9, q9]
    refine zT_lt (fun v12 e12 => zT_gi e8 (by omega) ?_)
    rw [za_pos e8]
    refine zT_gi eat (by omega) ?_
    rw [za_pos eat]
    refine zT_lt (fun v13 e13 => zT_gi ef1 (by omega) ?_)
    rw [za_pos ef1]
    refine zT_lt (fun S14 e14 => zT_gi eq (by omega) (zT_gi ef1 (by omega) ?_))
    rw [za_pos eq]
    refine zT_lt (fun v15 e15 => zT_gi ei hi ?_)
    rw [za_pos ei]
    refine zT_lt (fun S16 e16 => zT_lt (fun v17 e17 => ?_))
    have y13 : v13.toInt = zz_wv gain c (120 + 40 * p) back i := by
      rw [e13, e12]
      exact zq_rounded (zb_i2l (zq_tG gain hg)) (by rw [hF.2 48 _ (by omega)]; exact hc _ (by omega)) (by omega) (by omega) (by omega) (by omega)
    have y15 : v15.toInt = zz_cut (d i - zz_wv gain c (120 + 40 * p) back i) := by
      rw [e15]
      exact zq_cut (zb_sub (by rw [e14, zs_ln _ _ (by omega), hF.2 50 _ (by omega)]; exact hd i hi) (by rw [e14, zs_ll]; exact y13) (by unfold zz_wv; omega) (by unfold zz_wv; omega))
    rw [e17, zc_1]
    refine hT _ ⟨?_, fun t ht => ?_, fun t ht => ?_⟩
    · rw [e16, e14]; exact (hF.wl _ (Or.inl ⟨rfl, by omega⟩)).wl _ (Or.inr ⟨rfl, hi⟩)
    · rw [e16, zs_ln _ _ (by omega), e14]
      by_cases ct : t = i
      · subst ct; rw [zs_ll]; exact y13
      · rw [zs_ln _ _ (by omega)]; exact hw t (by omega)
    · rw [e16]
      by_cases ct : t = i
      · subst ct; rw [zs_ll]; exact y15
      · rw [zs_ln _ _ (by omega), e14, zs_ln _ _ (by omega)]; exact he t (by omega)
  · intro Sc hP rec T hT
    unfold zb_X11_encode_76
    exact zT_ift (by decide) (hT _ hP)
theorem zq_filters (S : zs_T) {e : Nat → Int} (he : ∀ m, m < 40 → (S.2 51 m).toInt = e m) (ne : ∀ t, t < 40 → -32768 ≤ e t ∧ e t ≤ 32767) :
    zQ (fun S1 => zF zF_0 (fun k j => k = 52 ∧ j < 40) S S1 ∧ ∀ t, t < 40 → (S1.2 52 t).toInt = zz_fx2 e t) (zf_X11_filters S) := by
  unfold zf_X11_filters
  refine zQ.of (fun T hT => zT_b1 (zQ_mapL _ 40 52 (fun t => t) (fun j => j < 40) (zz_fx2 e) S (fun s t _ _ h => h) (fun t h => h) (by omega) ?_ ?_) (fun S1 h1 => hT S1 h1))
  · intro k Sc hk hF hU hW rec T hT
    have ek : (nI k).toInt = k := za_nI (by omega)
    unfold zb_X11_filters_2
    refine zT_iff (by rw [za_le, ek, show (40 : Int32).toInt = 40 by decide]; omega) (zT_b1 (zQ_for _ 11 (fun i a => a.toInt = 4096 + zz_fs e k i) (fun o => o.toInt = 4096 + zz_fs e k 11) ?_ ?_ 600 0 (4096 : Int64) (by omega) (by omega) rfl) (fun v7 h7 => zT_lt (fun v8 e8 => zT_gi ek hk ?_)))
    · intro i a hi ha rec T hT
      have ei : (nI i).toInt = i := za_nI (by omega)
      have b1 := zz_fs_b ne k i (by omega)
      have b2 := zz_fs_b ne k (i + 1) (by omega)
      have es : zz_fs e k (i + 1) = zz_fs e k i + zz_H i * zz_ee e (k + i) := rfl
      have k43 : zz_ee e (k + i) = 0 → T (zj_X11_filters_43 rec Sc (nI k) (nI i) a) := by
        intro h0
        unfold zj_X11_filters_43
        refine zT_lt (fun v2 e2 => zT_lt (fun v3 e3 => ?_))
        rw [e3, zc_1]
        refine hT _ ?_
        rw [e2, zb_add ha (show (0 : Int64).toInt = 0 by decide) (by omega) (by omega), es, h0, Int.mul_zero]; omega
      unfold zb_X11_filters_15
      refine zT_iff (by rw [za_le, ei, show (11 : Int32).toInt = 11 by decide]; omega) (zT_lt (fun v1 e1 => ?_))
      have q1 : v1.toInt = (k : Int) + i - 5 := by rw [e1]; exact za_sub (za_add ek ei (by omega) (by omega)) (by decide) (by omega) (by omega)
      refine zT_if (fun c1 => k43 ?_) (fun c1 => zT_if (fun c2 => zT_lt (fun v4 e4 => ?_)) (fun c2 => k43 ?_))
      · rw [za_lt, q1, show (0 : Int32).toInt = 0 by decide] at c1
        unfold zz_ee; rw [if_neg (by omega)]
      · rw [za_lt, q1, show (0 : Int32).toInt = 0 by decide] at c1
        rw [za_lt, q1, show (40 : Int32).toInt = 40 by decide] at c2
        have q2 : v1.toInt = ((k + i - 5 : Nat) : Int) := by omega
        have hee : zz_ee e (k + i) = e (k + i - 5) := by unfold zz_ee; rw [if_pos (by omega)]
        refine zT_gi q2 (by omega) ?_
        rw [za_pos q2]
        refine zT_lt (fun v5 e5 => zT_lt (fun v6 e6 => ?_))
        rw [e6, zc_1]
        refine hT _ ?_
        have x1 : (Sc.2 51 (k + i - 5)).toInt = zz_ee e (k + i) := by rw [hF.2 51 _ (by omega), hee]; exact he _ (by omega)
        rw [e5, e4, zb_add ha (zb_mul (zb_i2l (zq_tH i hi)) x1 (by omega) (by omega)) (by omega) (by omega), es]
        omega
      · rw [za_lt, q1, show (40 : Int32).toInt = 40 by decide] at c2
        unfold zz_ee; rw [if_neg (by omega)]
    · intro a ha rec T hT
      unfold zb_X11_filters_15
      exact zT_ift (by decide) (hT _ ha)
    · rw [za_pos ek]
      refine zT_lt (fun S9 e9 => zT_lt (fun v10 e10 => ?_))
      rw [e10, zc_1, e9]
      refine hT _ ?_
      rw [e8]; exact zq_cut (zb_sr (n := 13) 13 8192 h7 (by decide) (by decide) (by decide))
  · intro S1 hF rec T hT
    unfold zb_X11_filters_2
    exact zT_ift (by decide) hT
theorem zq_grid (S : zs_T) {x : Nat → Int} (hx : ∀ t, t < 40 → (S.2 52 t).toInt = x t) (nx : ∀ t, t < 40 → -32768 ≤ x t ∧ x t ≤ 32767) : zQ (fun o => o.toInt = ((zz_grid x : Nat) : Int)) (zl_3 (zb_X11_tellsPulses_9 S) 600 (0 : Int32) (-1 : Int64) (0 : Int32)) := by
  refine zQ_for3 _ 4 (fun i l b => l.toInt = (((zz_gd (zz_gs x) i).2 : Nat) : Int) ∧ ((i = 0 ∧ b.toInt = -1) ∨ b.toInt = (zz_gd (zz_gs x) i).1)) _ ?_ ?_ 600 0 (0 : Int32) (-1 : Int64) (by omega) (by omega) ⟨rfl, Or.inl ⟨rfl, by decide⟩⟩
  · intro g l b hg hP rec T hT
    obtain ⟨hl, hb⟩ := hP
    have eg : (nI g).toInt = g := za_nI (by omega)
    have hgs : 0 ≤ zz_gs x g := (zz_gs_s nx hg 13 (Nat.le_refl _)).1
    unfold zb_X11_tellsPulses_9
    refine zT_iff (by rw [za_le, eg, show (4 : Int32).toInt = 4 by decide]; omega) (zT_b1 (P := fun o => o.toInt = zz_gs x g) (zQ_sumL _ 0 13 (fun i => x (g + 3 * i) / 4 * (x (g + 3 * i) / 4)) (by omega) (by omega) ?_ ?_ (0 : Int64) rfl) (fun v4 h4 => zT_if (fun cc => zT_lt (fun v5 e5 => ?_)) (fun cc => zT_lt (fun v5 e5 => ?_))))
    · intro i a _ hi ha rec T hT
      rw [Nat.sub_zero] at ha hT
      have ei : (nI i).toInt = i := za_nI (by omega)
      have eq : (nI g + (3 : Int32) * nI i).toInt = ((g + 3 * i : Nat) : Int) := by have := za_add eg (za_mul (show (3 : Int32).toInt = 3 by decide) ei (by omega) (by omega)) (by omega) (by omega); omega
      have n2 := nx (g + 3 * i) (by omega)
      have hm := zn_mul (a := x (g + 3 * i) / 4) (b := x (g + 3 * i) / 4) (A := 8192) (B := 8192) (by omega) (by omega) (by omega) (by omega)
      have hs := zz_gs_s nx hg i (by omega)
      have q1 := zb_sr (n := 2) 2 4 (hx (g + 3 * i) (by omega)) (by decide) (by decide) (by decide)
      unfold zb_X11_tellsPulses_21
      refine zT_iff (by rw [za_le, ei, show (13 : Int32).toInt = 13 by decide]; omega) (zT_gi eq (by omega) (zT_gi eq (by omega) ?_))
      rw [za_pos eq]
      refine zT_lt (fun v1 e1 => zT_lt (fun v3 e3 => ?_))
      rw [e3, zc_1]
      refine hT _ ?_
      rw [e1, zb_add ha (zb_mul q1 q1 (by omega) (by omega)) (by omega) (by omega)]
    · intro a rec T hT
      unfold zb_X11_tellsPulses_21
      exact zT_ift (by decide) hT
    · rw [zb_le, h4] at cc
      have hb1 : b.toInt = (zz_gd (zz_gs x) g).1 := by
        rcases hb with h | h
        · omega
        · exact h
      have es : zz_gd (zz_gs x) (g + 1) = zz_gd (zz_gs x) g := by simp only [zz_gd]; rw [if_neg (by omega)]
      rw [e5, zc_1]
      exact hT _ _ ⟨by rw [es]; exact hl, Or.inr (by rw [es]; exact hb1)⟩
    · rw [zb_le, h4] at cc
      have es : zz_gd (zz_gs x) (g + 1) = (zz_gs x g, g) := by
        rcases hb with h | h
        · obtain ⟨h0, -⟩ := h
          subst h0
          show (if (0 : Int) < zz_gs x 0 then (zz_gs x 0, 0) else ((0 : Int), (0 : Nat))) = (zz_gs x 0, 0)
          by_cases c : 0 < zz_gs x 0
          · rw [if_pos c]
          · rw [if_neg c, show zz_gs x 0 = 0 by omega]
        · simp only [zz_gd]; rw [if_pos (by omega)]
      rw [e5, zc_1]
      exact hT _ _ ⟨by rw [es]; exact eg, Or.inr (by rw [es]; exact h4)⟩
  · intro l b hP rec T hT
    unfold zb_X11_tellsPulses_9
    exact zT_ift (by decide) (hT _ hP.1)
theorem zq_hx (S : zs_T) {f2 : Int32} {g : Nat} (h2 : f2.toInt = g) (hg : g < 4) {x : Nat → Int} (hx : ∀ t, t < 40 → (S.2 52 t).toInt = x t) (nx : ∀ t, t < 40 → -32768 ≤ x t ∧ x t ≤ 32767) : zQ (fun o => o.toInt = zz_max (fun i => zz_size (x (g + 3 * i))) 13) (zl_2 (zb_X11_tellsPulses_93 S f2) 600 (0 : Int64) (0 : Int32)) := by
  refine zQ_for _ 13 (fun i a => a.toInt = zz_max (fun i => zz_size (x (g + 3 * i))) i) _ ?_ ?_ 600 0 (0 : Int64) (by omega) (by omega) rfl
  · intro i a hi ha rec T hT
    have ei : (nI i).toInt = i := za_nI (by omega)
    have eq : (f2 + (3 : Int32) * nI i).toInt = ((g + 3 * i : Nat) : Int) := by have := za_add h2 (za_mul (show (3 : Int32).toInt = 3 by decide) ei (by omega) (by omega)) (by omega) (by omega); omega
    have n2 := nx (g + 3 * i) (by omega)
    have hs := zq_size (hx (g + 3 * i) (by omega)) (by omega)
    unfold zb_X11_tellsPulses_93
    refine zT_iff (by rw [za_le, ei, show (13 : Int32).toInt = 13 by decide]; omega) (zT_gi eq (by omega) ?_)
    rw [za_pos eq]
    refine zT_lt (fun v1 e4 => zT_if (fun c1 => zT_lt (fun v2 e5 => ?_)) (fun c1 => zT_gi eq (by omega) (zT_lt (fun v3 e6 => zT_lt (fun v2 e5 => ?_)))))
    · rw [zb_le, e4, hs, ha] at c1
      rw [e5, zc_1]
      exact hT _ (by rw [ha]; simp only [zz_max]; rw [if_neg (by omega)])
    · rw [zb_le, e4, hs, ha] at c1
      rw [e5, zc_1]
      exact hT _ (by rw [e6, hs]; simp only [zz_max]; rw [if_pos (by omega)])
  · intro a ha rec T hT
    unfold zb_X11_tellsPulses_93
    exact zT_ift (by decide) (hT _ ha)
theorem zq_stp (S : zs_T) {f5 : Int64} {s : Int} (h1 : f5.toInt = s) (h0 : 0 ≤ s) : zQ (fun o => o.toInt = ((zz_stp s 6 : Nat) : Int)) (zl_2 (zb_X11_tellsPulses_153 S f5) 600 (0 : Int32) (0 : Int32)) := by
  refine zQ_for _ 6 (fun i a => a.toInt = ((zz_stp s i : Nat) : Int)) _ ?_ ?_ 600 0 (0 : Int32) (by omega) (by omega) rfl
  · intro i a hi ha rec T hT
    have ei : (nI i).toInt = i := za_nI (by omega)
    have e9 : ((9 : Int32) + nI i).toInt = ((9 + i : Nat) : Int) := by have := za_add (show (9 : Int32).toInt = 9 by decide) ei (by omega) (by omega); omega
    have esh := zb_shr h1 e9 (by omega)
    have hb := zz_stp_b s i
    have hd := zz_sdiv h0 (9 + i)
    unfold zb_X11_tellsPulses_153
    refine zT_iff (by rw [za_le, ei, show (6 : Int32).toInt = 6 by decide]; omega) (zT_if (fun cc => zT_lt (fun v1 e1 => zT_lt (fun v2 e2 => ?_))) (fun cc => zT_lt (fun v1 e1 => zT_lt (fun v2 e2 => ?_))))
    · rw [zb_le, esh, show (0 : Int64).toInt = 0 by decide] at cc
      rw [e2, zc_1]
      refine hT _ ?_
      rw [e1, za_add ha (show (0 : Int32).toInt = 0 by decide) (by omega) (by omega)]
      simp only [zz_stp]
      rw [if_neg (fun z => hd.mpr z cc)]; omega
    · rw [zb_le, esh, show (0 : Int64).toInt = 0 by decide] at cc
      rw [e2, zc_1]
      refine hT _ ?_
      rw [e1, za_add ha (show (1 : Int32).toInt = 1 by decide) (by omega) (by omega)]
      simp only [zz_stp]
      rw [if_pos (hd.mp cc)]; omega
  · intro a ha rec T hT
    unfold zb_X11_tellsPulses_153
    exact zT_ift (by decide) (hT _ ha)
/-! a height's shift and step -/
def zz_up : Nat → Int × Int → Int × Int
  | 0, x => x
  | f + 1, x => if 7 < x.2 then x else zz_up f (x.1 - 1, 2 * x.2 + 1)
def zz_e0 (h : Int) : Int := if h ≤ 15 then 0 else h / 8 - 1
def zz_en0 (h : Int) : Int × Int := if h - 8 * zz_e0 h = 0 then (-4, 15) else (zz_e0 h, h - 8 * zz_e0 h)
def zz_en (h : Int) : Int × Int := zz_up 3 (zz_en0 h)
def zz_sh (h : Int) : Nat := (6 - (zz_en h).1).toNat
def zz_sp (h : Int) : Nat := ((zz_en h).2 - 8).toNat
theorem zz_en_b : ∀ n : Nat, n < 64 → 6 - (zz_en n).1 = ((zz_sh n : Nat) : Int) ∧ zz_sh n ≤ 10 ∧ (zz_en n).2 - 8 = ((zz_sp n : Nat) : Int) ∧ zz_sp n < 8 := by decide +kernel
theorem zz_en0_b : ∀ n : Nat, n < 64 → -4 ≤ (zz_en0 n).1 ∧ (zz_en0 n).1 ≤ 6 ∧ 1 ≤ (zz_en0 n).2 ∧ (zz_en0 n).2 ≤ 15 ∧ (15 < n → 8 ≤ (zz_en0 n).2) := by decide +kernel
theorem zz_up_8 {f : Nat} {x : Int × Int} (h : 7 < x.2) : zz_up f x = x := by cases f with
  | zero => rfl
  | succ f => simp only [zz_up]; rw [if_pos h]
theorem zp_scaleBy (k0 : Nat) (S : zs_T) {a1 : Int32} {h : Nat} (h1 : a1.toInt = h) (hh : h < 64) : zQ (fun S1 => zF (fun k j => k = k0 ∧ (j = 1 ∨ j = 2)) zF_0 S S1 ∧ (S1.1 k0 1).toInt = ((zz_sh h : Nat) : Int) ∧ (S1.1 k0 2).toInt = ((zz_sp h : Nat) : Int)) (zf_X7_scaleBy k0 S a1) := by
  obtain ⟨b1, b2, b3, b4⟩ := zz_en_b h hh
  obtain ⟨c1, c2, c3, c4, c5⟩ := zz_en0_b h hh
  refine zQ.of (fun T hT => ?_)
  have k33 : ∀ y2 y3 : Int32, y2.toInt = (zz_en0 h).1 → y3.toInt = (zz_en0 h).2 → T (zj_X7_scaleBy_33 k0 S y2 y3) := by
    intro y2 y3 q2 q3
    unfold zj_X7_scaleBy_33
    refine zT_b2 (P := fun o => o.1.toInt = (zz_en h).1 ∧ o.2.toInt = (zz_en h).2) (zQ_wh3 _ 3 (fun i a b c => c = nI i ∧ i ≤ 3 ∧ zz_up (3 - i) (a.toInt, b.toInt) = zz_en h ∧ (-4 - (i : Int) ≤ a.toInt ∧ a.toInt ≤ 6) ∧ (1 ≤ b.toInt ∧ b.toInt ≤ 15)) _ ?_ 600 0 y2 y3 (0 : Int32) (by omega) (by omega) ⟨rfl, by omega, by rw [q2, q3]; rfl, by omega, by omega⟩) (fun v5 v6 h5 => ?_)
    · intro i a b c hP rec T hT hR
      obtain ⟨ec, hi, hu, ha, hb⟩ := hP
      have ei : (nI i).toInt = i := za_nI (by omega)
      unfold zb_X7_scaleBy_36
      rw [ec]
      refine zT_if (fun c3 => hT _ ?_) (fun c3 => zT_if (fun c7 => hT _ ?_) (fun c7 => zT_lt (fun v2 e2 => zT_lt (fun v3 e3 => zT_lt (fun v4 e4 => ?_)))))
      · rw [za_le, ei, show (3 : Int32).toInt = 3 by decide] at c3
        rw [show 3 - i = 0 by omega] at hu
        have hu : (a.toInt, b.toInt) = zz_en h := hu
        exact ⟨congrArg Prod.fst hu, congrArg Prod.snd hu⟩
      · rw [za_lt, show (7 : Int32).toInt = 7 by decide] at c7
        rw [zz_up_8 (by exact c7)] at hu
        exact ⟨congrArg Prod.fst hu, congrArg Prod.snd hu⟩
      · rw [za_le, ei, show (3 : Int32).toInt = 3 by decide] at c3
        rw [za_lt, show (7 : Int32).toInt = 7 by decide] at c7
        have w2 : v2.toInt = 2 * b.toInt + 1 := by rw [e2]; exact za_add (za_mul (by decide) rfl (by omega) (by omega)) (by decide) (by omega) (by omega)
        have w3 : v3.toInt = a.toInt - 1 := by rw [e3, za_add rfl (show (-1 : Int32).toInt = -1 by decide) (by omega) (by omega)]; omega
        rw [e4, zc_1]
        refine hR _ _ _ (by omega) ⟨rfl, by omega, ?_, by omega, by omega⟩
        rw [w2, w3, ← hu, show 3 - i = (3 - (i + 1)) + 1 by omega]
        simp only [zz_up]
        rw [if_neg c7]
    · dsimp only at h5
      obtain ⟨q5, q6⟩ := h5
      unfold zj_X7_scaleBy_63
      refine zT_lt (fun S7 e7 => zT_lt (fun S8 e8 => hT _ ⟨?_, ?_, ?_⟩))
      · rw [e8, e7]; exact ((zF.rf S).wi _ ⟨rfl, Or.inl rfl⟩).wi _ ⟨rfl, Or.inr rfl⟩
      · rw [e8, zs_in _ _ (by omega), e7, zs_ii, za_sub (show (6 : Int32).toInt = 6 by decide) q5 (by omega) (by omega)]; exact b1
      · rw [e8, zs_ii, za_sub q6 (show (8 : Int32).toInt = 8 by decide) (by omega) (by omega)]; exact b3
  have k15 : ∀ z : Int32, z.toInt = zz_e0 h → T (zj_X7_scaleBy_15 k0 S a1 z) := by
    intro z hz
    have he0 : 0 ≤ zz_e0 h ∧ zz_e0 h ≤ 6 := by unfold zz_e0; split <;> omega
    unfold zj_X7_scaleBy_15
    refine zT_lt (fun v1 e1 => ?_)
    have w1 : v1.toInt = h - 8 * zz_e0 h := by rw [e1]; exact za_sub h1 (za_mul (by decide) hz (by omega) (by omega)) (by omega) (by omega)
    refine zT_if (fun c0 => k33 _ _ ?_ ?_) (fun c0 => k33 _ _ ?_ ?_)
    · rw [za_eq, w1, show (0 : Int32).toInt = 0 by decide] at c0
      unfold zz_en0; rw [if_pos c0]; decide
    · rw [za_eq, w1, show (0 : Int32).toInt = 0 by decide] at c0
      unfold zz_en0; rw [if_pos c0]; decide
    · rw [za_eq, w1, show (0 : Int32).toInt = 0 by decide] at c0
      unfold zz_en0; rw [if_neg c0]; exact hz
    · rw [za_eq, w1, show (0 : Int32).toInt = 0 by decide] at c0
      unfold zz_en0; rw [if_neg c0]; exact w1
  unfold zf_X7_scaleBy
  refine zT_if (fun c => k15 _ ?_) (fun c => k15 _ ?_)
  · rw [za_le, h1, show (15 : Int32).toInt = 15 by decide] at c
    unfold zz_e0; rw [if_pos c]; rfl
  · rw [za_le, h1, show (15 : Int32).toInt = 15 by decide] at c
    rw [za_sub (za_sr (n := 3) 3 8 h1 (by decide) (by decide) (by decide)) (show (1 : Int32).toInt = 1 by decide) (by omega) (by omega)]
    unfold zz_e0; rw [if_neg c]
theorem zq_ofHeight (S : zs_T) {a1 : Int32} {h : Nat} (h1 : a1.toInt = h) (hh : h < 64) : zQ (fun S1 => zF (fun k j => k = 40 ∧ (j = 28 ∨ j = 29)) zF_0 S S1 ∧ (S1.1 40 28).toInt = 6 - ((zz_sh h : Nat) : Int) ∧ (S1.1 40 29).toInt = ((zz_sp h : Nat) : Int)) (zf_X11_ofHeight S a1) := by
  obtain ⟨b1, b2, b3, b4⟩ := zz_en_b h hh
  obtain ⟨c1, c2, c3, c4, c5⟩ := zz_en0_b h hh
  refine zQ.of (fun T hT => ?_)
  have kl : ∀ S2 : zs_T, zF (fun k j => k = 40 ∧ (j = 28 ∨ j = 29)) zF_0 S S2 → (S2.1 40 28).toInt = (zz_en0 h).1 → (S2.1 40 29).toInt = (zz_en0 h).2 → T (zc_b1 (zl_1 zb_X11_ofHeight_51 600 S2) (fun S5 => zc_lt (zs_wi S5 40 29 ((S5.1 40 29) - (8 : Int32))) (fun (S6 : zs_T) => some S6))) := by
    intro S2 hF2 q2 q3
    refine zT_b1 (zQ_wh1 _ 3 (fun i a => zF (fun k j => k = 40 ∧ (j = 28 ∨ j = 29)) zF_0 S a ∧ i ≤ 3 ∧ zz_up (3 - i) ((a.1 40 28).toInt, (a.1 40 29).toInt) = zz_en h ∧ (-4 - (i : Int) ≤ (a.1 40 28).toInt ∧ (a.1 40 28).toInt ≤ 6) ∧ ((a.1 40 29).toInt ≤ 15 ∧ (2 : Int) ^ (i + 1) - 1 ≤ (a.1 40 29).toInt)) (fun a => zF (fun k j => k = 40 ∧ (j = 28 ∨ j = 29)) zF_0 S a ∧ (a.1 40 28).toInt = (zz_en h).1 ∧ (a.1 40 29).toInt = (zz_en h).2) ?_ 600 0 S2 (by omega) (by omega) ⟨hF2, by omega, by rw [q2, q3]; rfl, by omega, by simp; omega⟩) (fun S5 h5 => zT_lt (fun S6 e6 => ?_))
    · intro i a hP rec T hT hR
      obtain ⟨hF, hi, hu, ha, hb⟩ := hP
      unfold zb_X11_ofHeight_51
      refine zT_if (fun c7 => hT _ ?_) (fun c7 => zT_lt (fun S3 e3 => zT_lt (fun S4 e4 => ?_)))
      · rw [za_le, show (8 : Int32).toInt = 8 by decide] at c7
        rw [zz_up_8 (by show 7 < (a.1 40 29).toInt; omega)] at hu
        exact ⟨hF, congrArg Prod.fst hu, congrArg Prod.snd hu⟩
      · rw [za_le, show (8 : Int32).toInt = 8 by decide] at c7
        have hi3 : i < 3 := by
          by_cases ci : i = 3
          · subst ci; simp at hb; omega
          · omega
        have hp4 := zz_p4 (i + 1) (by omega)
        have w2 : (S4.1 40 29).toInt = 2 * (a.1 40 29).toInt + 1 := by
          rw [e4, zs_in _ _ (by omega), e3, zs_ii]
          exact za_add (za_mul (by decide) rfl (by omega) (by omega)) (by decide) (by omega) (by omega)
        have w3 : (S4.1 40 28).toInt = (a.1 40 28).toInt - 1 := by
          rw [e4, zs_ii, za_sub (x := (a.1 40 28).toInt) (by rw [e3, zs_in _ _ (by omega)]) (show (1 : Int32).toInt = 1 by decide) (by omega) (by omega)]
        have hF4 : zF (fun k j => k = 40 ∧ (j = 28 ∨ j = 29)) zF_0 S S4 := by rw [e4, e3]; exact (hF.wi _ ⟨rfl, Or.inr rfl⟩).wi _ ⟨rfl, Or.inl rfl⟩
        refine hR _ hi3 ⟨hF4, by omega, ?_, by omega, by omega, ?_⟩
        · rw [w2, w3, ← hu, show 3 - i = (3 - (i + 1)) + 1 by omega]
          simp only [zz_up]
          rw [if_neg (by omega)]
        · rw [w2, Int.pow_succ]; omega
    · obtain ⟨hF, q5, q6⟩ := h5
      refine hT _ ⟨?_, ?_, ?_⟩
      · rw [e6]; exact hF.wi _ ⟨rfl, Or.inr rfl⟩
      · rw [e6, zs_in _ _ (by omega), q5]; omega
      · rw [e6, zs_ii, za_sub q6 (show (8 : Int32).toInt = 8 by decide) (by omega) (by omega)]; exact b3
  have k16 : ∀ z : Int32, z.toInt = zz_e0 h → T (zj_X11_ofHeight_16 S a1 z) := by
    intro z hz
    have he0 : 0 ≤ zz_e0 h ∧ zz_e0 h ≤ 6 := by unfold zz_e0; split <;> omega
    unfold zj_X11_ofHeight_16
    refine zT_lt (fun S1 e1 => zT_lt (fun S2 e2 => ?_))
    have w1 : (S1.1 40 28).toInt = zz_e0 h := by rw [e1, zs_ii]; exact hz
    have w2 : (S2.1 40 29).toInt = h - 8 * zz_e0 h := by rw [e2, zs_ii]; exact za_sub h1 (za_mul (by decide) w1 (by omega) (by omega)) (by omega) (by omega)
    have w3 : (S2.1 40 28).toInt = zz_e0 h := by rw [e2, zs_in _ _ (by omega)]; exact w1
    have hF2 : zF (fun k j => k = 40 ∧ (j = 28 ∨ j = 29)) zF_0 S S2 := by rw [e2, e1]; exact ((zF.rf S).wi _ ⟨rfl, Or.inl rfl⟩).wi _ ⟨rfl, Or.inr rfl⟩
    refine zT_if (fun c0 => zT_lt (fun S7 e7 => zT_lt (fun S8 e8 => kl S8 ?_ ?_ ?_))) (fun c0 => kl S2 hF2 ?_ ?_)
    · rw [e8, e7]; exact (hF2.wi _ ⟨rfl, Or.inl rfl⟩).wi _ ⟨rfl, Or.inr rfl⟩
    · rw [za_eq, w2, show (0 : Int32).toInt = 0 by decide] at c0
      rw [e8, zs_in _ _ (by omega), e7, zs_ii]; unfold zz_en0; rw [if_pos c0]; decide
    · rw [za_eq, w2, show (0 : Int32).toInt = 0 by decide] at c0
      rw [e8, zs_ii]; unfold zz_en0; rw [if_pos c0]; decide
    · rw [za_eq, w2, show (0 : Int32).toInt = 0 by decide] at c0
      unfold zz_en0; rw [if_neg c0]; exact w3
    · rw [za_eq, w2, show (0 : Int32).toInt = 0 by decide] at c0
      unfold zz_en0; rw [if_neg c0]; exact w2
  unfold zf_X11_ofHeight
  refine zT_if (fun c => k16 _ ?_) (fun c => k16 _ ?_)
  · rw [za_le, h1, show (15 : Int32).toInt = 15 by decide] at c
    unfold zz_e0; rw [if_pos c]; rfl
  · rw [za_le, h1, show (15 : Int32).toInt = 15 by decide] at c
    rw [za_sub (za_sr (n := 3) 3 8 h1 (by decide) (by decide) (by decide)) (show (1 : Int32).toInt = 1 by decide) (by omega) (by omega)]
    unfold zz_e0; rw [if_neg c]
