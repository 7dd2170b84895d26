/-! a part of a frame -/
def zz_pv (d c : Nat → Int) (q t : Nat) : Int := zz_wv (zz_gn d c q) c q (zz_back d c q) t
def zz_px (d c : Nat → Int) (q : Nat) : Nat → Int := zz_fx2 (fun t => zz_cut (d t - zz_pv d c q t))
def zz_pg (d c : Nat → Int) (q : Nat) : Nat := zz_grid (zz_px d c q)
def zz_ph (d c : Nat → Int) (q : Nat) : Nat := zz_ht (zz_hx (zz_px d c q))
def zz_pl (d c : Nat → Int) (q i : Nat) : Int := zz_td (zz_ph d c q) (zz_px d c q (zz_pg d c q + 3 * i))
def zz_pn (d c : Nat → Int) (q t : Nat) : Int := zz_cut (zz_row (zz_pg d c q) (zz_ph d c q) (zz_pl d c q) t + zz_pv d c q t)
def zz_par (d c : Nat → Int) (q i : Nat) : Int := if i = 0 then ((zz_back d c q : Nat) : Int) else if i = 1 then ((zz_gn d c q : Nat) : Int) else if i = 2 then ((zz_pg d c q : Nat) : Int) else if i = 3 then ((zz_ph d c q : Nat) : Int) else zz_pl d c q (i - 4)
theorem zz_px_b (d c : Nat → Int) (q t : Nat) : -32768 ≤ zz_px d c q t ∧ zz_px d c q t ≤ 32767 := zz_cut_b _
theorem zz_hx_b (x : Nat → Int) : 0 ≤ zz_hx x ∧ zz_hx x ≤ 32767 := zz_max_b (B := 32767) (by omega) 13 (fun t _ => (zz_size_b _).2)
theorem zz_ph_b (d c : Nat → Int) (q : Nat) : zz_ph d c q < 64 := zz_ht_b (zz_hx_b _).1 (zz_hx_b _).2
theorem zz_hx_n {x : Nat → Int} (nx : ∀ t, -32768 ≤ x t ∧ x t ≤ 32767) {i : Nat} (hi : i < 13) : -32768 ≤ x (zz_grid x + 3 * i) * 2 ^ (zz_sh ((zz_ht (zz_hx x) : Nat) : Int)) ∧ x (zz_grid x + 3 * i) * 2 ^ (zz_sh ((zz_ht (zz_hx x) : Nat) : Int)) ≤ 32768 :=
  zz_x_num (zz_hx_b x).1 (zz_hx_b x).2 (nx _) (zz_max_ge (fun i => zz_size (x (zz_grid x + 3 * i))) 13 i hi)
theorem zp_part (S : zs_T) {a1 : Int32} {p : Nat} (h1 : a1.toInt = p) (hp : p < 4) {d c : Nat → Int} (hd : ∀ t, t < 40 → (S.1 6 (40 * p + t)).toInt = d t) (nd : ∀ t, t < 40 → -32768 ≤ d t ∧ d t ≤ 32767) (hc : ∀ t, t < 120 + 40 * p → (S.1 20 t).toInt = c t) (nc : ∀ t, t < 120 + 40 * p → -32768 ≤ c t ∧ c t ≤ 32767) (hz : ∀ m, m < 50 → (m < 5 ∨ 45 ≤ m) → (S.1 25 m).toInt = 0) :
    zQ (fun S1 => zF (fun k j => k = 21 ∨ k = 22 ∨ k = 23 ∨ k = 24 ∨ k = 26 ∨ k = 27 ∨ k = 28 ∨ (k = 25 ∧ 5 ≤ j ∧ j < 45) ∨ (k = 3 ∧ 8 + 17 * p ≤ j ∧ j < 25 + 17 * p) ∨ (k = 20 ∧ 120 + 40 * p ≤ j ∧ j < 160 + 40 * p)) zF_0 S S1 ∧ (∀ i, i < 17 → (S1.1 3 (8 + 17 * p + i)).toInt = zz_par d c (120 + 40 * p) i) ∧ ∀ t, t < 40 → (S1.1 20 (120 + 40 * p + t)).toInt = zz_pn d c (120 + 40 * p) t) (zf_X1_describePart S a1) := by
  have e17 := za_mul (show (17 : Int32).toInt = 17 by decide) h1 (by omega) (by omega)
  have hbk := zz_back_b nd nc (show 120 ≤ 120 + 40 * p by omega)
  have hgn : zz_gn d c (120 + 40 * p) < 4 := by have := zz_gain_b (2 * (zz_bs (zz_lk d c (120 + 40 * p)) 81).1 / 2 ^ (6 - zz_fd d)) (zz_pw2 c (120 + 40 * p - zz_back d c (120 + 40 * p))); unfold zz_gn; omega
  have hpg : zz_pg d c (120 + 40 * p) < 4 := zz_grid_b _
  have hph := zz_ph_b d c (120 + 40 * p)
  have npw : ∀ t, t < 40 → -32768 ≤ zz_pv d c (120 + 40 * p) t ∧ zz_pv d c (120 + 40 * p) t ≤ 32767 := fun t _ => zz_M_b _ _
  refine zQ.of (fun T hT => ?_)
  unfold zf_X1_describePart
  refine zT_lt (fun v1 e1 => ?_)
  have w1 : v1.toInt = ((8 + 17 * p : Nat) : Int) := by rw [e1]; have := za_add (show (8 : Int32).toInt = 8 by decide) e17 (by omega) (by omega); omega
  have w2 : (v1 + (1 : Int32)).toInt = ((9 + 17 * p : Nat) : Int) := by have := za_add w1 (show (1 : Int32).toInt = 1 by decide) (by omega) (by omega); omega
  have w3 : (v1 + (2 : Int32)).toInt = ((10 + 17 * p : Nat) : Int) := by have := za_add w1 (show (2 : Int32).toInt = 2 by decide) (by omega) (by omega); omega
  have w4 : (v1 + (3 : Int32)).toInt = ((11 + 17 * p : Nat) : Int) := by have := za_add w1 (show (3 : Int32).toInt = 3 by decide) (by omega) (by omega); omega
  refine zT_b1 (zp_find S h1 hp hd nd hc nc) (fun S2 h2 => ?_)
  obtain ⟨f2, q2, g2⟩ := h2
  refine zT_b1 (zp_look 20 21 (by decide) S2 h1 hp q2 hbk.1 hbk.2 g2 hgn (c := c) (fun t ht => by rw [f2.1 20 t (by omega)]; exact hc t ht) nc) (fun S3 h3 => ?_)
  obtain ⟨f3, q3⟩ := h3
  refine zT_b1 (zp_thin S3 h1 hp (d := d) (w := zz_pv d c (120 + 40 * p)) (fun t ht => by rw [f3.1 6 _ (by omega), f2.1 6 _ (by omega)]; exact hd t ht) nd q3 npw (fun m hm hm2 => by rw [f3.1 25 _ (by omega), f2.1 25 _ (by omega)]; exact hz m hm hm2) (x := zz_px d c (120 + 40 * p)) rfl) (fun S4 h4 => ?_)
  obtain ⟨f4, x4, g4, k4⟩ := h4
  have b4 : (S4.1 22 1).toInt = ((zz_back d c (120 + 40 * p) : Nat) : Int) := by rw [f4.1 22 _ (by omega), f3.1 22 _ (by omega)]; exact q2
  have n4 : (S4.1 22 2).toInt = ((zz_gn d c (120 + 40 * p) : Nat) : Int) := by rw [f4.1 22 _ (by omega), f3.1 22 _ (by omega)]; exact g2
  have u4 : ∀ t, t < 40 → (S4.1 21 t).toInt = zz_pv d c (120 + 40 * p) t := fun t ht => by rw [f4.1 21 _ (by omega)]; exact q3 t ht
  have F4 : zF (fun k j => k = 21 ∨ k = 22 ∨ k = 23 ∨ k = 24 ∨ k = 26 ∨ k = 27 ∨ k = 28 ∨ (k = 25 ∧ 5 ≤ j ∧ j < 45) ∨ (k = 3 ∧ 8 + 17 * p ≤ j ∧ j < 25 + 17 * p) ∨ (k = 20 ∧ 120 + 40 * p ≤ j ∧ j < 160 + 40 * p)) zF_0 S S4 := ((f2.mo (fun k j h => by omega) (fun _ _ h => h)).tr (f3.mo (fun k j h => by omega) (fun _ _ h => h))).tr (f4.mo (fun k j h => by omega) (fun _ _ h => h))
  clear f2 f3 f4 q2 g2 q3
  refine zT_gi w1 (by omega) ?_
  rw [za_pos w1]
  refine zT_lt (fun S5 e5 => zT_gi w2 (by omega) ?_)
  rw [za_pos w2]
  refine zT_lt (fun S6 e6 => zT_gi w3 (by omega) ?_)
  rw [za_pos w3]
  refine zT_lt (fun S7 e7 => zT_gi w4 (by omega) ?_)
  rw [za_pos w4]
  refine zT_lt (fun S8 e8 => ?_)
  have r8 : ∀ k j, ¬ (k = 3 ∧ 8 + 17 * p ≤ j ∧ j < 25 + 17 * p) → S8.1 k j = S4.1 k j := fun k j h => by rw [e8, zs_in _ _ (by omega), e7, zs_in _ _ (by omega), e6, zs_in _ _ (by omega), e5, zs_in _ _ (by omega)]
  have F8 : zF (fun k j => k = 21 ∨ k = 22 ∨ k = 23 ∨ k = 24 ∨ k = 26 ∨ k = 27 ∨ k = 28 ∨ (k = 25 ∧ 5 ≤ j ∧ j < 45) ∨ (k = 3 ∧ 8 + 17 * p ≤ j ∧ j < 25 + 17 * p) ∨ (k = 20 ∧ 120 + 40 * p ≤ j ∧ j < 160 + 40 * p)) zF_0 S S8 := by
    rw [e8, e7, e6, e5]
    exact (((F4.wi _ (by omega)).wi _ (by omega)).wi _ (by omega)).wi _ (by omega)
  have p0 : (S8.1 3 (8 + 17 * p)).toInt = ((zz_back d c (120 + 40 * p) : Nat) : Int) := by rw [e8, zs_in _ _ (by omega), e7, zs_in _ _ (by omega), e6, zs_in _ _ (by omega), e5, zs_ii]; exact b4
  have p1 : (S8.1 3 (9 + 17 * p)).toInt = ((zz_gn d c (120 + 40 * p) : Nat) : Int) := by rw [e8, zs_in _ _ (by omega), e7, zs_in _ _ (by omega), e6, zs_ii, e5, zs_in _ _ (by omega)]; exact n4
  have p2 : (S8.1 3 (10 + 17 * p)).toInt = ((zz_pg d c (120 + 40 * p) : Nat) : Int) := by rw [e8, zs_in _ _ (by omega), e7, zs_ii, e6, zs_in _ _ (by omega), e5, zs_in _ _ (by omega)]; exact g4
  have p3 : (S8.1 3 (11 + 17 * p)).toInt = ((zz_ph d c (120 + 40 * p) : Nat) : Int) := by rw [e8, zs_ii, e7, zs_in _ _ (by omega), e6, zs_in _ _ (by omega), e5, zs_in _ _ (by omega)]; exact k4
  clear e5 e6 e7 e8
  refine zT_b1 (zp_scaleBy 27 S8 (by rw [r8 24 3 (by omega)]; exact k4) hph) (fun S9 h9 => ?_)
  obtain ⟨f9, s9, t9⟩ := h9
  have x9 : ∀ t, t < 40 → (S9.1 26 t).toInt = zz_px d c (120 + 40 * p) t := fun t ht => by rw [f9.1 26 _ (by omega), r8 26 _ (by omega)]; exact x4 t ht
  have g9 : (S9.1 24 2).toInt = ((zz_pg d c (120 + 40 * p) : Nat) : Int) := by rw [f9.1 24 _ (by omega), r8 24 _ (by omega)]; exact g4
  refine zT_b1 (zQ_mapI _ 13 3 (fun i => 12 + 17 * p + i) (fun j => 12 + 17 * p ≤ j ∧ j < 25 + 17 * p) (zz_pl d c (120 + 40 * p)) S9 (fun s t _ _ h => by omega) (fun t h => by omega) (by omega) ?_ ?_) (fun S13 h13 => ?_)
  · intro i Sc hi hF hU hW rec T hT
    have ei : (nI i).toInt = i := za_nI (by omega)
    have gc : (Sc.1 24 2).toInt = ((zz_pg d c (120 + 40 * p) : Nat) : Int) := by rw [hF.1 24 _ (by omega)]; exact g9
    have eq : (Sc.1 24 2 + (3 : Int32) * nI i).toInt = ((zz_pg d c (120 + 40 * p) + 3 * i : Nat) : Int) := by have := za_add gc (za_mul (show (3 : Int32).toInt = 3 by decide) ei (by omega) (by omega)) (by omega) (by omega); omega
    have e4 : (v1 + (4 : Int32) + nI i).toInt = ((12 + 17 * p + i : Nat) : Int) := by have := za_add (za_add w1 (show (4 : Int32).toInt = 4 by decide) (by omega) (by omega)) ei (by omega) (by omega); omega
    unfold zb_X1_describePart_128
    refine zT_iff (by rw [za_le, ei, show (13 : Int32).toInt = 13 by decide]; omega) (zT_gi eq (by omega) ?_)
    rw [za_pos eq]
    refine zT_b1 (zp_told 27 Sc hph (by rw [hF.1 27 1 (by omega)]; exact s9) (by rw [hF.1 27 2 (by omega)]; exact t9) (by rw [hF.1 26 _ (by omega)]; exact x9 _ (by omega)) (zz_hx_n (zz_px_b d c (120 + 40 * p)) hi)) (fun v10 h10 => zT_gi e4 (by omega) ?_)
    rw [za_pos e4]
    refine zT_lt (fun S11 e11 => zT_lt (fun v12 e12 => ?_))
    rw [e12, zc_1, e11]
    exact hT _ h10
  · intro S1 hF rec T hT
    unfold zb_X1_describePart_128
    exact zT_ift (by decide) hT
  · obtain ⟨f13, y13⟩ := h13
    have P0 : (S13.1 3 (8 + 17 * p)).toInt = ((zz_back d c (120 + 40 * p) : Nat) : Int) := by rw [f13.1 3 _ (by omega), f9.1 3 _ (by omega)]; exact p0
    have P1 : (S13.1 3 (9 + 17 * p)).toInt = ((zz_gn d c (120 + 40 * p) : Nat) : Int) := by rw [f13.1 3 _ (by omega), f9.1 3 _ (by omega)]; exact p1
    have P2 : (S13.1 3 (10 + 17 * p)).toInt = ((zz_pg d c (120 + 40 * p) : Nat) : Int) := by rw [f13.1 3 _ (by omega), f9.1 3 _ (by omega)]; exact p2
    have P3 : (S13.1 3 (11 + 17 * p)).toInt = ((zz_ph d c (120 + 40 * p) : Nat) : Int) := by rw [f13.1 3 _ (by omega), f9.1 3 _ (by omega)]; exact p3
    have F13 : zF (fun k j => k = 21 ∨ k = 22 ∨ k = 23 ∨ k = 24 ∨ k = 26 ∨ k = 27 ∨ k = 28 ∨ (k = 25 ∧ 5 ≤ j ∧ j < 45) ∨ (k = 3 ∧ 8 + 17 * p ≤ j ∧ j < 25 + 17 * p) ∨ (k = 20 ∧ 120 + 40 * p ≤ j ∧ j < 160 + 40 * p)) zF_0 S S13 := (F8.tr (f9.mo (fun k j h => by omega) (fun _ _ h => h))).tr (f13.mo (fun k j h => by omega) (fun _ _ h => h))
    have u13 : ∀ t, t < 40 → (S13.1 21 t).toInt = zz_pv d c (120 + 40 * p) t := fun t ht => by rw [f13.1 21 _ (by omega), f9.1 21 _ (by omega), r8 21 _ (by omega)]; exact u4 t ht
    refine zT_b1 (zp_makeAgain 27 28 (by decide) (by decide) (by decide) S13 w1 (by omega) (by rw [show 8 + 17 * p + 2 = 10 + 17 * p by omega]; exact P2) hpg (by rw [show 8 + 17 * p + 3 = 11 + 17 * p by omega]; exact P3) hph (p := zz_pl d c (120 + 40 * p)) (fun i hi => by rw [show 8 + 17 * p + 4 + i = 12 + 17 * p + i by omega]; exact y13 i hi) (fun i _ => zz_td_b _ _)) (fun S14 h14 => ?_)
    obtain ⟨f14, y14⟩ := h14
    refine zT_b1 (zp_add 28 21 20 (by decide) (by decide) S14 h1 hp y14 (fun t _ => zz_row_b hph _ t) (w := zz_pv d c (120 + 40 * p)) (fun t ht => by rw [f14.1 21 _ (by omega)]; exact u13 t ht) npw) (fun S15 h15 => hT _ ⟨?_, fun i hi => ?_, h15.2⟩)
    · exact (F13.tr (f14.mo (fun k j h => by omega) (fun _ _ h => h))).tr (h15.1.mo (fun k j h => by omega) (fun _ _ h => h))
    · rw [h15.1.1 3 _ (by omega), f14.1 3 _ (by omega)]
      unfold zz_par
      by_cases c0 : i = 0
      · rw [if_pos c0, c0]; exact P0
      · rw [if_neg c0]
        by_cases c1 : i = 1
        · rw [if_pos c1, c1, show 8 + 17 * p + 1 = 9 + 17 * p by omega]; exact P1
        · rw [if_neg c1]
          by_cases c2 : i = 2
          · rw [if_pos c2, c2, show 8 + 17 * p + 2 = 10 + 17 * p by omega]; exact P2
          · rw [if_neg c2]
            by_cases c3 : i = 3
            · rw [if_pos c3, c3, show 8 + 17 * p + 3 = 11 + 17 * p by omega]; exact P3
            · rw [if_neg c3]
              have := y13 (i - 4) (by omega)
              rw [show 12 + 17 * p + (i - 4) = 8 + 17 * p + i by omega] at this
              exact this
/-! the reference's -/
theorem zq_tellsPulses (S : zs_T) {a1 : Int32} {p : Nat} (h1 : a1.toInt = p) (hp : p < 4) {x : Nat → Int} (hx : ∀ t, t < 40 → (S.2 52 t).toInt = x t) (nx : ∀ t, -32768 ≤ x t ∧ x t ≤ 32767) :
    zQ (fun S1 => zF (fun k j => (k = 43 ∧ 10 + 17 * p ≤ j ∧ j < 25 + 17 * p) ∨ (k = 40 ∧ (j = 28 ∨ j = 29))) zF_0 S S1 ∧ (S1.1 43 (10 + 17 * p)).toInt = ((zz_grid x : Nat) : Int) ∧ (S1.1 43 (11 + 17 * p)).toInt = ((zz_ht (zz_hx x) : Nat) : Int) ∧ ∀ i, i < 13 → (S1.1 43 (12 + 17 * p + i)).toInt = zz_td (zz_ht (zz_hx x)) (x (zz_grid x + 3 * i))) (zf_X11_tellsPulses S a1) := by
  have hgb := zz_grid_b x
  have hxb := zz_hx_b x
  have hok := zz_ht_ok hxb.1 hxb.2
  have hht := zz_ht_b hxb.1 hxb.2
  obtain ⟨b1, b2, b3, b4⟩ := zz_en_b (zz_ht (zz_hx x)) hht
  have hR := zz_Rt_b (zz_sp ((zz_ht (zz_hx x) : Nat) : Int)) b4
  have e17 := za_mul (show (17 : Int32).toInt = 17 by decide) h1 (by omega) (by omega)
  refine zQ.of (fun T hT => ?_)
  unfold zf_X11_tellsPulses
  refine zT_b1 (zq_grid S hx (fun t _ => nx t)) (fun v6 h6 => zT_b1 (P := fun o => o.toInt = zz_hx x) (zq_hx S h6 hgb hx (fun t _ => nx t)) (fun v11 h11 => zT_b1 (zq_stp S h11 hxb.1) (fun v16 h16 => zT_lt (fun v17 e1 => ?_))))
  have w1 : v17.toInt = ((10 + 17 * p : Nat) : Int) := by rw [e1]; have := za_add (show (10 : Int32).toInt = 10 by decide) e17 (by omega) (by omega); omega
  have w2 : (v17 + (1 : Int32)).toInt = ((11 + 17 * p : Nat) : Int) := by have := za_add w1 (show (1 : Int32).toInt = 1 by decide) (by omega) (by omega); omega
  refine zT_gi w1 (by omega) ?_
  rw [za_pos w1]
  refine zT_lt (fun S18 e18 => zT_gi w2 (by omega) ?_)
  rw [za_pos w2]
  refine zT_lt (fun S19 e19 => zT_gi w2 (by omega) ?_)
  have e5 : (v16 + (5 : Int32)).toInt = ((zz_stp (zz_hx x) 6 + 5 : Nat) : Int) := by have := za_add h16 (show (5 : Int32).toInt = 5 by decide) (by omega) (by omega); omega
  have q19 : (S19.1 43 (11 + 17 * p)).toInt = ((zz_ht (zz_hx x) : Nat) : Int) := by
    rw [e19, zs_ii, za_add (za_l2i (zb_shr h11 e5 (by omega)) (by omega) (by omega)) (za_mul (show (8 : Int32).toInt = 8 by decide) h16 (by omega) (by omega)) (by omega) (by omega)]
    unfold zz_ht; omega
  have g19 : (S19.1 43 (10 + 17 * p)).toInt = ((zz_grid x : Nat) : Int) := by rw [e19, zs_in _ _ (by omega), e18, zs_ii]; exact h6
  have F19 : zF (fun k j => (k = 43 ∧ 10 + 17 * p ≤ j ∧ j < 25 + 17 * p) ∨ (k = 40 ∧ (j = 28 ∨ j = 29))) zF_0 S S19 := by rw [e19, e18]; exact ((zF.rf S).wi _ (by omega)).wi _ (by omega)
  refine zT_b1 (zq_ofHeight S19 q19 hht) (fun S20 h20 => ?_)
  obtain ⟨f20, s20, t20⟩ := h20
  refine zT_b1 (zQ_mapI _ 13 43 (fun i => 12 + 17 * p + i) (fun j => 12 + 17 * p ≤ j ∧ j < 25 + 17 * p) (fun i => zz_td (zz_ht (zz_hx x)) (x (zz_grid x + 3 * i))) S20 (fun s t _ _ h => by omega) (fun t h => by omega) (by omega) ?_ ?_) (fun S25 h25 => hT _ ⟨?_, ?_, ?_, h25.2⟩)
  · intro i Sc hi hF hU hW rec T hT
    have ei : (nI i).toInt = i := za_nI (by omega)
    have eq : (v6 + (3 : Int32) * nI i).toInt = ((zz_grid x + 3 * i : Nat) : Int) := by have := za_add h6 (za_mul (show (3 : Int32).toInt = 3 by decide) ei (by omega) (by omega)) (by omega) (by omega); omega
    have e4 : (v17 + (2 : Int32) + nI i).toInt = ((12 + 17 * p + i : Nat) : Int) := by have := za_add (za_add w1 (show (2 : Int32).toInt = 2 by decide) (by omega) (by omega)) ei (by omega) (by omega); omega
    have c29 : Sc.1 40 29 = nI (zz_sp ((zz_ht (zz_hx x) : Nat) : Int)) := za_of (by rw [hF.1 40 _ (by omega)]; exact t20)
    have c28 : ((6 : Int32) - Sc.1 40 28).toInt = ((zz_sh ((zz_ht (zz_hx x) : Nat) : Int) : Nat) : Int) := by
      have c28a : (Sc.1 40 28).toInt = 6 - ((zz_sh ((zz_ht (zz_hx x) : Nat) : Int) : Nat) : Int) := by rw [hF.1 40 _ (by omega)]; exact s20
      have := za_sub (show (6 : Int32).toInt = 6 by decide) c28a (by omega) (by omega); omega
    have hn := zz_hx_n nx hi
    have xx : (Sc.2 52 (zz_grid x + 3 * i)).toInt = x (zz_grid x + 3 * i) := by rw [hF.2 52 _ (fun z => z), f20.2 52 _ (fun z => z), F19.2 52 _ (fun z => z)]; exact hx _ (by omega)
    have hL := zz_L_b (x (zz_grid x + 3 * i) * 2 ^ (zz_sh ((zz_ht (zz_hx x) : Nat) : Int))) (zz_Rt (zz_sp ((zz_ht (zz_hx x) : Nat) : Int)))
    unfold zb_X11_tellsPulses_245
    refine zT_iff (by rw [za_le, ei, show (13 : Int32).toInt = 13 by decide]; omega) (zT_gi eq (by omega) ?_)
    rw [za_pos eq]
    refine zT_lt (fun v21 e21 => zT_lt (fun v22 e22 => zT_gi e4 (by omega) ?_))
    rw [za_pos e4]
    refine zT_lt (fun S23 e23 => zT_lt (fun v24 e24 => ?_))
    rw [e24, zc_1, e23]
    have y22 : v22.toInt = zz_L (x (zz_grid x + 3 * i) * 2 ^ (zz_sh ((zz_ht (zz_hx x) : Nat) : Int))) (zz_Rt (zz_sp ((zz_ht (zz_hx x) : Nat) : Int))) := by
      rw [e22, e21, c29]
      exact zq_lower (zb_shl xx c28 (by omega) (by omega) (by omega)) (zb_i2l (zq_tR _ b4)) (by omega) (by omega) (by omega) (by omega)
    exact hT _ (za_add (za_l2i (zb_sr (n := 12) 12 4096 y22 (by decide) (by decide) (by decide)) (by omega) (by omega)) (by decide) (by omega) (by omega))
  · intro S1 hF rec T hT
    unfold zb_X11_tellsPulses_245
    exact zT_ift (by decide) hT
  · exact (F19.tr (f20.mo (fun k j h => Or.inr h) (fun _ _ h => h))).tr (h25.1.mo (fun k j h => by omega) (fun _ _ h => h))
  · rw [h25.1.1 43 _ (by omega), f20.1 43 _ (by omega)]; exact g19
  · rw [h25.1.1 43 _ (by omega), f20.1 43 _ (by omega)]; exact q19
theorem zq_part (S : zs_T) {a1 : Int32} {p : Nat} (h1 : a1.toInt = p) (hp : p < 4) {d c : Nat → Int} (hd : ∀ t, t < 40 → (S.2 50 (40 * p + t)).toInt = d t) (nd : ∀ t, t < 40 → -32768 ≤ d t ∧ d t ≤ 32767) (hc : ∀ t, t < 120 + 40 * p → (S.2 48 t).toInt = c t) (nc : ∀ t, t < 120 + 40 * p → -32768 ≤ c t ∧ c t ≤ 32767) (rec : zs_T → Int32 → Option zs_T) (T : Option zs_T → Prop)
    (hT : ∀ S1, zF (fun k j => (k = 43 ∧ 8 + 17 * p ≤ j ∧ j < 25 + 17 * p) ∨ (k = 40 ∧ (j = 28 ∨ j = 29))) (fun k j => k = 51 ∨ k = 52 ∨ k = 58 ∨ (k = 48 ∧ 120 + 40 * p ≤ j ∧ j < 160 + 40 * p)) S S1 → (∀ i, i < 17 → (S1.1 43 (8 + 17 * p + i)).toInt = zz_par d c (120 + 40 * p) i) → (∀ t, t < 40 → (S1.2 48 (120 + 40 * p + t)).toInt = zz_pn d c (120 + 40 * p) t) → T (rec S1 (a1 + (1 : Int32)))) : T (zb_X11_encode_55 rec S a1) := by
  have hbk := zz_back_b nd nc (show 120 ≤ 120 + 40 * p by omega)
  have hgn : zz_gn d c (120 + 40 * p) < 4 := by have := zz_gain_b (2 * (zz_bs (zz_lk d c (120 + 40 * p)) 81).1 / 2 ^ (6 - zz_fd d)) (zz_pw2 c (120 + 40 * p - zz_back d c (120 + 40 * p))); unfold zz_gn; omega
  have hpg : zz_pg d c (120 + 40 * p) < 4 := zz_grid_b _
  have hph := zz_ph_b d c (120 + 40 * p)
  have npw : ∀ t, t < 40 → -32768 ≤ zz_pv d c (120 + 40 * p) t ∧ zz_pv d c (120 + 40 * p) t ≤ 32767 := fun t _ => zz_M_b _ _
  unfold zb_X11_encode_55
  refine zT_iff (by rw [za_le, h1, show (4 : Int32).toInt = 4 by decide]; omega) (zT_lt (fun v10 e10 => ?_))
  have w10 : v10.toInt = ((120 + 40 * p : Nat) : Int) := by rw [e10]; have := za_add (show (120 : Int32).toInt = 120 by decide) (za_mul (show (40 : Int32).toInt = 40 by decide) h1 (by omega) (by omega)) (by omega) (by omega); omega
  refine zT_b1 (zq_looksBack S h1 hp w10 hd nd hc nc) (fun S11 h11 => ?_)
  obtain ⟨f11, q11, g11⟩ := h11
  refine zT_b1 (zq_enc76 S11 h1 hp w10 hbk.1 hbk.2 hgn q11 g11 (c := c) (d := d) (fun t ht => by rw [f11.2 48 _ (fun z => z)]; exact hc t ht) nc (fun t ht => by rw [f11.2 50 _ (fun z => z)]; exact hd t ht) nd) (fun S18 h18 => ?_)
  obtain ⟨f18, w18, e18⟩ := h18
  refine zT_b1 (zq_filters S18 (e := fun t => zz_cut (d t - zz_pv d c (120 + 40 * p) t)) e18 (fun t _ => zz_cut_b _)) (fun S19 h19 => ?_)
  obtain ⟨f19, x19⟩ := h19
  refine zT_b1 (zq_tellsPulses S19 h1 hp (x := zz_px d c (120 + 40 * p)) x19 (zz_px_b d c (120 + 40 * p))) (fun S20 h20 => ?_)
  obtain ⟨f20, a20, b20, c20⟩ := h20
  refine zT_b1 (zq_makes S20 h1 hp (g := zz_pg d c (120 + 40 * p)) (h := zz_ph d c (120 + 40 * p)) a20 hpg b20 hph (p := zz_pl d c (120 + 40 * p)) c20 (fun i _ => zz_td_b _ _)) (fun S21 h21 => ?_)
  obtain ⟨f21, m21⟩ := h21
  refine zT_b1 (zq_enc181 S21 hp w10 m21 (fun t _ => zz_row_b hph _ t) (w := zz_pv d c (120 + 40 * p)) (fun t ht => by rw [f21.2 48 _ (by omega), f20.2 48 _ (fun z => z), f19.2 48 _ (by omega)]; exact w18 t ht) npw) (fun S25 h25 => zT_lt (fun v26 e26 => ?_))
  rw [e26]
  refine hT _ ?_ (fun i hi => ?_) h25.2
  · refine ⟨fun k j h => ?_, fun k j h => ?_⟩
    · rw [h25.1.1 k j (fun z => z), f21.1 k j (by omega), f20.1 k j (by omega), f19.1 k j (fun z => z), f18.1 k j (fun z => z), f11.1 k j (by omega)]
    · rw [h25.1.2 k j (by omega), f21.2 k j (by omega), f20.2 k j (fun z => z), f19.2 k j (by omega), f18.2 k j (by omega), f11.2 k j (fun z => z)]
  · rw [h25.1.1 43 _ (fun z => z), f21.1 43 _ (by omega)]
    unfold zz_par
    by_cases c0 : i = 0
    · rw [if_pos c0, c0, f20.1 43 _ (by omega), f19.1 43 _ (fun z => z), f18.1 43 _ (fun z => z)]; exact q11
    · rw [if_neg c0]
      by_cases c1 : i = 1
      · rw [if_pos c1, c1, f20.1 43 _ (by omega), f19.1 43 _ (fun z => z), f18.1 43 _ (fun z => z), show 8 + 17 * p + 1 = 9 + 17 * p by omega]; exact g11
      · rw [if_neg c1]
        by_cases c2 : i = 2
        · rw [if_pos c2, c2, show 8 + 17 * p + 2 = 10 + 17 * p by omega]; exact a20
        · rw [if_neg c2]
          by_cases c3 : i = 3
          · rw [if_pos c3, c3, show 8 + 17 * p + 3 = 11 + 17 * p by omega]; exact b20
          · rw [if_neg c3]
            have := c20 (i - 4) (by omega)
            rw [show 12 + 17 * p + (i - 4) = 8 + 17 * p + i by omega] at this
            exact this
