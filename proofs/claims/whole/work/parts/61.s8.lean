/-! from the filter before to the filter of this frame -/
def zz_tw (st : Nat) (h g : Int) : Int := if st = 0 then zz_cut (zz_cut (h / 4 + g / 4) + h / 2) else if st = 1 then zz_cut (h / 2 + g / 2) else if st = 2 then zz_cut (zz_cut (h / 4 + g / 4) + g / 2) else g
def zz_ss (k : Int) : Int := if 20070 ≤ k then zz_cut (k / 4 + 26112) else if 11059 ≤ k then k + 11059 else 2 * k
def zz_str (t : Int) : Int := zz_sg t (zz_ss (zz_size t))
def zz_r (st : Nat) (h g : Int) : Int := zz_str (zz_tw st h g)
theorem zz_ss_b {k : Int} (h0 : 0 ≤ k) (h1 : k ≤ 32767) : 0 ≤ zz_ss k ∧ zz_ss k ≤ 32767 := by
  have := zz_cut_b (k / 4 + 26112)
  unfold zz_ss; split <;> (try split) <;> try omega
  unfold zz_cut; split <;> (try split) <;> omega
theorem zz_str_b (t : Int) : -32767 ≤ zz_str t ∧ zz_str t ≤ 32767 := by
  have h := zz_size_b t
  have := zz_ss_b h.1 h.2
  unfold zz_str zz_sg; split <;> omega
theorem zz_tw_b {st : Nat} {h g : Int} (hg : -32768 ≤ g ∧ g ≤ 32767) : -32768 ≤ zz_tw st h g ∧ zz_tw st h g ≤ 32767 := by
  unfold zz_tw; split
  · exact zz_cut_b _
  · split
    · exact zz_cut_b _
    · split
      · exact zz_cut_b _
      · exact hg
theorem zp_between {a1 a2 a3 : Int32} {st : Nat} {h g : Int} (h1 : a1.toInt = st) (h2 : a2.toInt = h) (h3 : a3.toInt = g) (hh : -32768 ≤ h ∧ h ≤ 32767) (hg : -32768 ≤ g ∧ g ≤ 32767) : (zf_X2_between a1 a2 a3).toInt = zz_tw st h g := by
  have q1 := za_sr (n := 2) 2 4 h2 (by decide) (by decide) (by decide)
  have q2 := za_sr (n := 2) 2 4 h3 (by decide) (by decide) (by decide)
  have q3 := za_sr (n := 1) 1 2 h2 (by decide) (by decide) (by decide)
  have q4 := za_sr (n := 1) 1 2 h3 (by decide) (by decide) (by decide)
  have q5 := zp_cut (za_add q1 q2 (by omega) (by omega))
  have b := zz_cut_b (h / 4 + g / 4)
  unfold zf_X2_between zz_tw
  simp only [zc_lt]
  by_cases c0 : st = 0
  · rw [if_pos (by rw [za_eq, h1, c0]; rfl), if_pos c0]
    exact zp_cut (za_add q5 q3 (by omega) (by omega))
  · rw [if_neg (by rw [za_eq, h1, show (0 : Int32).toInt = 0 by decide]; omega), if_neg c0]
    by_cases c1 : st = 1
    · rw [if_pos (by rw [za_eq, h1, c1]; rfl), if_pos c1]
      exact zp_cut (za_add q3 q4 (by omega) (by omega))
    · rw [if_neg (by rw [za_eq, h1, show (1 : Int32).toInt = 1 by decide]; omega), if_neg c1]
      by_cases c2 : st = 2
      · rw [if_pos (by rw [za_eq, h1, c2]; rfl), if_pos c2]
        exact zp_cut (za_add q5 q4 (by omega) (by omega))
      · rw [if_neg (by rw [za_eq, h1, show (2 : Int32).toInt = 2 by decide]; omega), if_neg c2]
        exact h3
theorem zp_straight {a : Int32} {x : Int} (h : a.toInt = x) (hx : -32768 ≤ x) : (zf_X2_straight a).toInt = zz_str x := by
  have hs := zp_size h (by omega)
  have hb := zz_size_b x
  have hbt := zz_ss_b hb.1 hb.2
  unfold zf_X2_straight zz_str
  simp only [zc_lt]
  by_cases c1 : 11059 ≤ zz_size x
  · rw [if_pos (by rw [za_le, hs]; exact c1)]
    by_cases c2 : 20070 ≤ zz_size x
    · rw [if_pos (by rw [za_le, hs]; exact c2)]
      have e : (zf_X4_cut ((zf_X4_size a >>> ((2 : Int32) &&& 31)) + (26112 : Int32))).toInt = zz_ss (zz_size x) := by
        rw [zp_cut (za_add (za_sr (n := 2) 2 4 hs (by decide) (by decide) (by decide)) (show (26112 : Int32).toInt = 26112 by decide) (by omega) (by omega))]
        unfold zz_ss; rw [if_pos c2]
      exact zp_sign h e (by omega)
    · rw [if_neg (by rw [za_le, hs]; exact c2)]
      have e : (zf_X4_size a + (11059 : Int32)).toInt = zz_ss (zz_size x) := by
        rw [za_add hs (show (11059 : Int32).toInt = 11059 by decide) (by omega) (by omega)]
        unfold zz_ss; rw [if_neg c2, if_pos c1]
      exact zp_sign h e (by omega)
  · rw [if_neg (by rw [za_le, hs]; exact c1)]
    have e : ((2 : Int32) * zf_X4_size a).toInt = zz_ss (zz_size x) := by
      rw [za_mul (show (2 : Int32).toInt = 2 by decide) hs (by omega) (by omega)]
      unfold zz_ss; rw [if_neg (by omega), if_neg c1]
    exact zp_sign h e (by omega)
theorem zp_shape (k0 k1 k2 : Nat) (S : zs_T) (hk0 : k0 ≠ k2) (hk1 : k1 ≠ k2) {a1 : Int32} {st : Nat} (h1 : a1.toInt = st) {h g : Nat → Int} (hh : ∀ t, t < 8 → (S.1 k0 t).toInt = h t) (hg : ∀ t, t < 8 → (S.1 k1 t).toInt = g t) (nh : ∀ t, t < 8 → -32768 ≤ h t ∧ h t ≤ 32767) (ng : ∀ t, t < 8 → -32768 ≤ g t ∧ g t ≤ 32767) :
    zQ (fun S1 => zF (fun k j => k = k2 ∧ j < 8) zF_0 S S1 ∧ ∀ t, t < 8 → (S1.1 k2 t).toInt = zz_r st (h t) (g t)) (zf_X2_shape k0 k1 k2 S a1) := by
  unfold zf_X2_shape
  refine zQ.of (fun T hT => zT_b1 (zQ_mapI _ 8 k2 (fun t => t) (fun j => j < 8) (fun t => zz_r st (h t) (g t)) S (fun s t _ _ h => h) (fun t h => h) (by omega) ?_ ?_) (fun S1 h1 => hT S1 h1))
  · intro i Sc hi hF hU hW rec T hT
    have ei : (nI i).toInt = i := za_nI (by omega)
    have x0 : (Sc.1 k0 i).toInt = h i := by rw [hF.1 k0 i (fun z => hk0 z.1)]; exact hh i hi
    have x1 : (Sc.1 k1 i).toInt = g i := by rw [hF.1 k1 i (fun z => hk1 z.1)]; exact hg i hi
    unfold zb_X2_shape_2
    refine zT_iff (by rw [za_le, ei, show (8 : Int32).toInt = 8 by decide]; omega) (zT_gi ei (by omega) (zT_gi ei (by omega) ?_))
    rw [za_pos ei]
    refine zT_lt (fun v1 e1 => zT_lt (fun v2 e2 => zT_gi ei (by omega) (zT_lt (fun S3 e3 => zT_lt (fun v4 e4 => ?_)))))
    rw [e4, zc_1, e3]
    refine hT _ ?_
    rw [e2, e1]
    exact zp_straight (zp_between h1 x0 x1 (nh i hi) (ng i hi)) (zz_tw_b (ng i hi)).1
  · intro S1 hF rec T hT
    unfold zb_X2_shape_2
    exact zT_ift (by decide) hT
def zz_stch (i : Nat) : Nat := if i < 13 then 0 else if i < 27 then 1 else if i < 40 then 2 else 3
theorem zq_makesR (S : zs_T) {a1 a2 : Int32} {i q : Nat} (h1 : a1.toInt = i) (h2 : a2.toInt = q) (hq : q ≤ 8) {h g : Nat → Int} (hh : ∀ t, t < 8 → (S.2 45 (q + t)).toInt = h t) (hg : ∀ t, t < 8 → (S.2 57 t).toInt = g t) (nh : ∀ t, t < 8 → -32768 ≤ h t ∧ h t ≤ 32767) (ng : ∀ t, t < 8 → -32768 ≤ g t ∧ g t ≤ 32767) :
    zQ (fun S1 => zF zF_0 (fun k j => k = 56 ∧ j < 9) S S1 ∧ ∀ t, t < 8 → (S1.2 56 (t + 1)).toInt = zz_r (zz_stch i) (h t) (g t)) (zf_X11_makesR S a1 a2) := by
  unfold zf_X11_makesR
  refine zQ.of (fun T hT => zT_b1 (zQ_mapL _ 8 56 (fun t => t + 1) (fun j => j < 9) (fun t => zz_r (zz_stch i) (h t) (g t)) S (fun s t _ _ h => by omega) (fun t h => by omega) (by omega) ?_ ?_) (fun S1 h1 => hT S1 h1))
  · intro j Sc hj hF hU hW rec T hT
    have ej : (nI j).toInt = j := za_nI (by omega)
    have ej1 : (nI j + (1 : Int32)).toInt = ((j + 1 : Nat) : Int) := by have := za_add ej (show (1 : Int32).toInt = 1 by decide) (by omega) (by omega); omega
    have eq : (a2 + nI j).toInt = ((q + j : Nat) : Int) := by have := za_add h2 ej (by omega) (by omega); omega
    have x0 : (Sc.2 45 (q + j)).toInt = h j := by rw [hF.2 45 (q + j) (by omega)]; exact hh j hj
    have x1 : (Sc.2 57 j).toInt = g j := by rw [hF.2 57 j (by omega)]; exact hg j hj
    have nhj := nh j hj
    have ngj := ng j hj
    have b := zz_cut_b (h j / 4 + g j / 4)
    have k178 : ∀ t z : Int64, t.toInt = zz_tw (zz_stch i) (h j) (g j) → z.toInt = zz_ss (zz_size (zz_tw (zz_stch i) (h j) (g j))) → T (zj_X11_makesR_178 rec Sc a1 a2 (nI j) t z) := by
      intro t z ht hz
      have hsb := zz_size_b (zz_tw (zz_stch i) (h j) (g j))
      have hss := zz_ss_b hsb.1 hsb.2
      unfold zj_X11_makesR_178
      refine zT_if (fun c => zT_gi ej1 (by omega) ?_) (fun c => zT_gi ej1 (by omega) ?_)
      · rw [zb_le, ht, show (0 : Int64).toInt = 0 by decide] at c
        rw [za_pos ej1]
        refine zT_lt (fun S5 e5 => zT_lt (fun v6 e6 => ?_))
        rw [e6, zc_1, e5]
        exact hT _ (by rw [hz]; unfold zz_r zz_str zz_sg; rw [if_pos c])
      · rw [zb_le, ht, show (0 : Int64).toInt = 0 by decide] at c
        rw [za_pos ej1]
        refine zT_lt (fun S5 e5 => zT_lt (fun v6 e6 => ?_))
        rw [e6, zc_1, e5]
        exact hT _ (by rw [zb_neg hz (by omega)]; unfold zz_r zz_str zz_sg; rw [if_neg c])
    have k124 : ∀ t : Int64, t.toInt = zz_tw (zz_stch i) (h j) (g j) → T (zj_X11_makesR_124 rec Sc a1 a2 (nI j) t) := by
      intro t ht
      have htb := zz_tw_b (st := zz_stch i) (h := h j) ngj
      have hsb := zz_size_b (zz_tw (zz_stch i) (h j) (g j))
      have hs := zq_size ht (by omega)
      unfold zj_X11_makesR_124
      refine zT_lt (fun v3 e3 => zT_if (fun c => zT_if (fun c1 => zT_lt (fun v4 e4 => k178 _ _ ht ?_)) (fun c1 => k178 _ _ ht ?_)) (fun c => k178 _ _ ht ?_))
      · rw [zb_le, e3, hs, show (20070 : Int64).toInt = 20070 by decide] at c1
        rw [e4, e3, zq_cut (zb_add (zb_sr (n := 2) 2 4 hs (by decide) (by decide) (by decide)) (show (26112 : Int64).toInt = 26112 by decide) (by omega) (by omega))]
        unfold zz_ss; rw [if_pos c1]
      · rw [zb_le, e3, hs, show (20070 : Int64).toInt = 20070 by decide] at c1
        rw [zb_le, e3, hs, show (11059 : Int64).toInt = 11059 by decide] at c
        rw [e3, zb_add hs (show (11059 : Int64).toInt = 11059 by decide) (by omega) (by omega)]
        unfold zz_ss; rw [if_neg c1, if_pos c]
      · rw [zb_le, e3, hs, show (11059 : Int64).toInt = 11059 by decide] at c
        rw [e3, zb_mul (show (2 : Int64).toInt = 2 by decide) hs (by omega) (by omega)]
        unfold zz_ss; rw [if_neg (by omega), if_neg c]
    unfold zb_X11_makesR_2
    refine zT_iff (by rw [za_le, ej, show (8 : Int32).toInt = 8 by decide]; omega) (zT_gi eq (by omega) ?_)
    rw [za_pos eq]
    refine zT_lt (fun v1 e1 => zT_gi ej hj ?_)
    rw [za_pos ej]
    refine zT_lt (fun v2 e2 => ?_)
    have y1 : v1.toInt = h j := by rw [e1]; exact x0
    have y2 : v2.toInt = g j := by rw [e2]; exact x1
    have w1 := zb_sr (n := 2) 2 4 y1 (by decide) (by decide) (by decide)
    have w2 := zb_sr (n := 2) 2 4 x1 (by decide) (by decide) (by decide)
    have w3 := zb_sr (n := 1) 1 2 y1 (by decide) (by decide) (by decide)
    have w4 := zb_sr (n := 1) 1 2 x1 (by decide) (by decide) (by decide)
    have w5 := zq_cut (zb_add w1 w2 (by omega) (by omega))
    refine zT_if (fun c1 => zT_if (fun c2 => zT_if (fun c3 => k124 _ ?_) (fun c3 => zT_gi ej hj (zT_lt (fun v9 e9 => zT_gi ej hj (zT_lt (fun v10 e10 => k124 _ ?_)))))) (fun c2 => zT_gi ej hj (zT_lt (fun v11 e11 => k124 _ ?_)))) (fun c1 => zT_gi ej hj (zT_lt (fun v12 e12 => zT_lt (fun v13 e13 => k124 _ ?_))))
    · rw [za_le, h1, show (40 : Int32).toInt = 40 by decide] at c3
      have es : zz_stch i = 3 := by unfold zz_stch; rw [if_neg (by omega), if_neg (by omega), if_neg (by omega)]
      rw [y2, es]; rfl
    · rw [za_le, h1, show (40 : Int32).toInt = 40 by decide] at c3
      rw [za_le, h1, show (27 : Int32).toInt = 27 by decide] at c2
      have y9 : v9.toInt = zz_cut (h j / 4 + g j / 4) := by rw [e9]; exact w5
      rw [e10, zq_cut (zb_add y9 w4 (by omega) (by omega))]
      have es : zz_stch i = 2 := by unfold zz_stch; rw [if_neg (by omega), if_neg (by omega), if_pos (by omega)]
      rw [es]; rfl
    · rw [za_le, h1, show (27 : Int32).toInt = 27 by decide] at c2
      rw [za_le, h1, show (13 : Int32).toInt = 13 by decide] at c1
      rw [e11, zq_cut (zb_add w3 w4 (by omega) (by omega))]
      have es : zz_stch i = 1 := by unfold zz_stch; rw [if_neg (by omega), if_pos (by omega)]
      rw [es]; rfl
    · rw [za_le, h1, show (13 : Int32).toInt = 13 by decide] at c1
      have y12 : v12.toInt = zz_cut (h j / 4 + g j / 4) := by rw [e12]; exact w5
      rw [e13, zq_cut (zb_add y12 w3 (by omega) (by omega))]
      have es : zz_stch i = 0 := by unfold zz_stch; rw [if_pos (by omega)]
      rw [es]; rfl
  · intro S1 hF rec T hT
    unfold zb_X11_makesR_2
    exact zT_ift (by decide) hT
/-! the lattice -/
def zz_lat (r u : Nat → Int) (x : Int) : Nat → Int × Int
  | 0 => (x, x)
  | j + 1 => (zz_cut ((zz_lat r u x j).1 + zz_M (r j) (u j)), zz_cut (u j + zz_M (r j) (zz_lat r u x j).1))
theorem zz_lat_b {r u : Nat → Int} {x : Int} (hx : -32768 ≤ x ∧ x ≤ 32767) (j : Nat) : (-32768 ≤ (zz_lat r u x j).1 ∧ (zz_lat r u x j).1 ≤ 32767) ∧ (-32768 ≤ (zz_lat r u x j).2 ∧ (zz_lat r u x j).2 ≤ 32767) := by
  cases j with
  | zero => exact ⟨hx, hx⟩
  | succ j => exact ⟨zz_cut_b _, zz_cut_b _⟩
theorem zp_left (S : zs_T) {a1 : Int32} {x : Int} (h1 : a1.toInt = x) (hx : -32768 ≤ x ∧ x ≤ 32767) {r u : Nat → Int} (hr : ∀ t, t < 8 → (S.1 18 t).toInt = r t) (nr : ∀ t, t < 8 → -32768 ≤ r t ∧ r t ≤ 32767) (hu : ∀ t, t < 8 → (S.1 7 t).toInt = u t) (nu : ∀ t, t < 8 → -32768 ≤ u t ∧ u t ≤ 32767) :
    zQ (fun o => o.1.toInt = (zz_lat r u x 8).1 ∧ zF (fun k j => k = 7 ∧ j < 8) zF_0 S o.2 ∧ ∀ t, t < 8 → (o.2.1 7 t).toInt = (zz_lat r u x t).2) (zf_X1_left S a1) := by
  unfold zf_X1_left
  refine zQ.of (fun T hT => zT_b2 (zQ_for4 _ 8 (fun j S1 d o => d.toInt = (zz_lat r u x j).1 ∧ o.toInt = (zz_lat r u x j).2 ∧ zF (fun k j => k = 7 ∧ j < 8) zF_0 S S1 ∧ (∀ t, t < j → (S1.1 7 t).toInt = (zz_lat r u x t).2) ∧ ∀ t, j ≤ t → S1.1 7 t = S.1 7 t) (fun o => o.2.toInt = (zz_lat r u x 8).1 ∧ zF (fun k j => k = 7 ∧ j < 8) zF_0 S o.1 ∧ ∀ t, t < 8 → (o.1.1 7 t).toInt = (zz_lat r u x t).2) ?_ ?_ 600 0 S a1 a1 (by omega) (by omega) ⟨h1, h1, zF.rf S, fun t ht => absurd ht (Nat.not_lt_zero t), fun t _ => rfl⟩) (fun S9 v10 h => hT _ h))
  · intro j Sc d o hj hP rec T hT
    obtain ⟨hd, ho, hF, hW, hU⟩ := hP
    have ej : (nI j).toInt = j := za_nI (by omega)
    have x1 : (Sc.1 18 j).toInt = r j := by rw [hF.1 18 j (by omega)]; exact hr j hj
    have x2 : (Sc.1 7 j).toInt = u j := by rw [hU j (Nat.le_refl _)]; exact hu j hj
    have nrj := nr j hj
    have nuj := nu j hj
    have hb := zz_lat_b (r := r) (u := u) hx j
    have b1 := zz_M_b (r j) (u j)
    have b2 := zz_M_b (r j) (zz_lat r u x j).1
    unfold zb_X1_left_7
    refine zT_iff (by rw [za_le, ej, show (8 : Int32).toInt = 8 by decide]; omega) (zT_gi ej hj ?_)
    rw [za_pos ej]
    refine zT_lt (fun v1 e1 => zT_gi ej hj (zT_lt (fun v2 e2 => zT_gi ej hj (zT_lt (fun S3 e3 => zT_lt (fun v4 e4 => zT_lt (fun v5 e5 => zT_lt (fun v6 e6 => zT_lt (fun v7 e7 => zT_lt (fun v8 e8 => ?_))))))))))
    have y1 : v1.toInt = r j := by rw [e1]; exact x1
    have y2 : v2.toInt = u j := by rw [e2]; exact x2
    have y4 : v4.toInt = zz_M (r j) (zz_lat r u x j).1 := by rw [e4]; exact zp_rounded y1 hd (by omega) (by omega) (by omega) (by omega)
    have y6 : v6.toInt = zz_M (r j) (u j) := by rw [e6]; exact zp_rounded y1 y2 (by omega) (by omega) (by omega) (by omega)
    rw [e8, zc_1]
    refine hT _ _ _ ⟨?_, ?_, ?_, fun t ht => ?_, fun t ht => ?_⟩
    · rw [e7]; exact zp_cut (za_add hd y6 (by omega) (by omega))
    · rw [e5]; exact zp_cut (za_add y2 y4 (by omega) (by omega))
    · rw [e3]; exact hF.wi _ ⟨rfl, hj⟩
    · by_cases c : t = j
      · subst c; rw [e3, zs_ii]; exact ho
      · rw [e3, zs_in _ _ (by omega)]; exact hW t (by omega)
    · rw [e3, zs_in _ _ (by omega)]; exact hU t (by omega)
  · intro Sc d o hP rec T hT
    obtain ⟨hd, ho, hF, hW, hU⟩ := hP
    unfold zb_X1_left_7
    exact zT_ift (by decide) (hT _ ⟨hd, hF, hW⟩)
theorem zq_left (S : zs_T) {a1 : Int64} {x : Int} (h1 : a1.toInt = x) (hx : -32768 ≤ x ∧ x ≤ 32767) {r u : Nat → Int} (hr : ∀ t, t < 8 → (S.2 56 (t + 1)).toInt = r t) (nr : ∀ t, t < 8 → -32768 ≤ r t ∧ r t ≤ 32767) (hu : ∀ t, t < 8 → (S.2 46 (t + 1)).toInt = u t) (nu : ∀ t, t < 8 → -32768 ≤ u t ∧ u t ≤ 32767) :
    zQ (fun o => o.2.toInt = (zz_lat r u x 8).1 ∧ zF zF_0 (fun k j => k = 46 ∧ j < 9) S o.1 ∧ ∀ t, t < 8 → (o.1.2 46 (t + 1)).toInt = (zz_lat r u x t).2) (zl_4 zb_X11_leaves_55 600 S a1 a1 (1 : Int32)) := by
  refine zQ_for4 _ 9 (fun i S1 d o => ∃ j, i = j + 1 ∧ d.toInt = (zz_lat r u x j).1 ∧ o.toInt = (zz_lat r u x j).2 ∧ zF zF_0 (fun k j => k = 46 ∧ j < 9) S S1 ∧ (∀ t, t < j → (S1.2 46 (t + 1)).toInt = (zz_lat r u x t).2) ∧ ∀ t, j ≤ t → S1.2 46 (t + 1) = S.2 46 (t + 1)) _ ?_ ?_ 600 1 S a1 a1 (by omega) (by omega) ⟨0, rfl, h1, h1, zF.rf S, fun t ht => absurd ht (Nat.not_lt_zero t), fun t _ => rfl⟩
  · intro i Sc d o hi hP rec T hT
    obtain ⟨j, eij, hd, ho, hF, hW, hU⟩ := hP
    subst eij
    have hj : j < 8 := by omega
    have ej : (nI (j + 1)).toInt = ((j + 1 : Nat) : Int) := za_nI (by omega)
    have x1 : (Sc.2 56 (j + 1)).toInt = r j := by rw [hF.2 56 (j + 1) (by omega)]; exact hr j hj
    have x2 : (Sc.2 46 (j + 1)).toInt = u j := by rw [hU j (Nat.le_refl _)]; exact hu j hj
    have nrj := nr j hj
    have nuj := nu j hj
    have hb := zz_lat_b (r := r) (u := u) hx j
    have b1 := zz_M_b (r j) (u j)
    have b2 := zz_M_b (r j) (zz_lat r u x j).1
    unfold zb_X11_leaves_55
    refine zT_iff (by rw [za_le, ej, show (9 : Int32).toInt = 9 by decide]; omega) (zT_gi ej hi ?_)
    rw [za_pos ej]
    refine zT_lt (fun v2 e2 => zT_gi ej hi (zT_lt (fun S3 e3 => zT_gi ej hi (zT_lt (fun v4 e4 => zT_lt (fun v5 e5 => zT_gi ej hi (zT_lt (fun v6 e6 => zT_lt (fun v7 e7 => zT_lt (fun v8 e8 => ?_))))))))))
    have y1 : (S3.2 56 (j + 1)).toInt = r j := by rw [e3, zs_ln _ _ (by omega)]; exact x1
    have y2 : v2.toInt = u j := by rw [e2]; exact x2
    have y4 : v4.toInt = zz_M (r j) (zz_lat r u x j).1 := by rw [e4]; exact zq_rounded y1 hd (by omega) (by omega) (by omega) (by omega)
    have y6 : v6.toInt = zz_M (r j) (u j) := by rw [e6]; exact zq_rounded y1 y2 (by omega) (by omega) (by omega) (by omega)
    rw [e8, zc_1]
    refine hT _ _ _ ⟨j + 1, rfl, ?_, ?_, ?_, fun t ht => ?_, fun t ht => ?_⟩
    · rw [e7]; exact zq_cut (zb_add hd y6 (by omega) (by omega))
    · rw [e5]; exact zq_cut (zb_add y2 y4 (by omega) (by omega))
    · rw [e3]; exact hF.wl _ ⟨rfl, hi⟩
    · by_cases c : t = j
      · subst c; rw [e3, zs_ll]; exact ho
      · rw [e3, zs_ln _ _ (by omega)]; exact hW t (by omega)
    · rw [e3, zs_ln _ _ (by omega)]; exact hU t (by omega)
  · intro Sc d o hP rec T hT
    obtain ⟨j, eij, hd, ho, hF, hW, hU⟩ := hP
    have : j = 8 := by omega
    subst this
    unfold zb_X11_leaves_55
    exact zT_ift (by decide) (hT _ ⟨hd, hF, hW⟩)
