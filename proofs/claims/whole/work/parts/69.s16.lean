/-! a frame, encoded -/
def zz_cn (d c : Nat → Int) (q j : Nat) : Int := if q ≤ j ∧ j < q + 40 then zz_pn d c q (j - q) else c j
def zz_cs (D c0 : Nat → Int) : Nat → Nat → Int
  | 0 => c0
  | p + 1 => zz_cn (fun t => D (40 * p + t)) (zz_cs D c0 p) (120 + 40 * p)
theorem zz_cs_b {D c0 : Nat → Int} (h0 : ∀ t, t < 120 → -32768 ≤ c0 t ∧ c0 t ≤ 32767) : ∀ p t, t < 120 + 40 * p → -32768 ≤ zz_cs D c0 p t ∧ zz_cs D c0 p t ≤ 32767 := by
  intro p
  induction p with
  | zero => intro t ht; exact h0 t (by omega)
  | succ p ih =>
    intro t ht
    simp only [zz_cs, zz_cn]
    by_cases c : 120 + 40 * p ≤ t ∧ t < 120 + 40 * p + 40
    · rw [if_pos c]; exact zz_cut_b _
    · rw [if_neg c]; exact ih t (by omega)
def zz_Fy (s : Nat → Int) (z w m : Int) (t : Nat) : Int := zz_y (zz_fx (zz_sx s z w m)) (zz_sx s z w m t)
def zz_Fx (s : Nat → Int) (z w m : Int) (t : Nat) : Int := zz_yx (zz_fx (zz_sx s z w m)) (zz_sx s z w m t)
def zz_Fr (s : Nat → Int) (z w m : Int) (j : Nat) : Int := zz_refl (zz_K (zz_Fy s z w m)) j
def zz_Fp (s : Nat → Int) (z w m : Int) (j : Nat) : Int := zz_fn j (zz_Fr s z w m j)
def zz_Fg (s : Nat → Int) (z w m : Int) (j : Nat) : Int := zz_g j (zz_Fp s z w m j)
def zz_FD (s : Nat → Int) (z w m : Int) (h u : Nat → Int) (t : Nat) : Int := zz_lf (zz_R h (zz_Fg s z w m)) u (zz_Fx s z w m) t
def zz_FP (s : Nat → Int) (z w m : Int) (h u c0 : Nat → Int) (j : Nat) : Int := if j < 8 then zz_Fp s z w m j else zz_par (fun t => zz_FD s z w m h u (40 * ((j - 8) / 17) + t)) (zz_cs (zz_FD s z w m h u) c0 ((j - 8) / 17)) (120 + 40 * ((j - 8) / 17)) ((j - 8) % 17)
theorem zz_sx_b (s : Nat → Int) (z w m : Int) (t : Nat) : -32768 ≤ zz_sx s z w m t ∧ zz_sx s z w m t ≤ 32767 := zz_cut_b _
theorem zz_Fy_b (s : Nat → Int) (z w m : Int) : ∀ t, t < 160 → -2048 ≤ zz_Fy s z w m t ∧ zz_Fy s z w m t ≤ 2048 := fun t ht => zz_y_b (x := zz_sx s z w m) (fun t _ => zz_sx_b s z w m t) ht
theorem zz_Fx_b (s : Nat → Int) (z w m : Int) (t : Nat) : -32768 ≤ zz_Fx s z w m t ∧ zz_Fx s z w m t ≤ 32767 := zz_yx_num (zz_sx_b s z w m t)
theorem zz_refl_b {K : Nat → Int} (hb : ∀ k, -(K 0) ≤ K k ∧ K k ≤ K 0) (h0 : K 0 < 2147483648) (t : Nat) : -32767 ≤ zz_refl K t ∧ zz_refl K t ≤ 32767 := by
  unfold zz_refl
  by_cases c : K 0 = 0
  · rw [if_pos c]; omega
  · rw [if_neg c]
    have hK0 : 1 ≤ K 0 := by have := hb 0; omega
    have np : ∀ t, -32768 ≤ zz_kp K t ∧ zz_kp K t ≤ 32767 := fun t => (zz_kp_b hK0 h0 hb t).2
    unfold zz_rj
    by_cases ck : zz_ok (zz_kp K) (t + 1) = true
    · rw [if_pos ck]
      simp only [zz_ok, Bool.and_eq_true, decide_eq_true_eq] at ck
      exact zz_rc_b ck.2 ((zz_pq_num np t).1 1)
    · rw [if_neg ck]; omega
theorem zz_Fr_b (s : Nat → Int) (z w m : Int) (t : Nat) : -32767 ≤ zz_Fr s z w m t ∧ zz_Fr s z w m t ≤ 32767 := zz_refl_b (zz_K_b _) (zz_K_0 (zz_Fy_b s z w m)) t
theorem zz_FD_b (s : Nat → Int) (z w m : Int) (h u : Nat → Int) (t : Nat) : -32768 ≤ zz_FD s z w m h u t ∧ zz_FD s z w m h u t ≤ 32767 := zz_lf_b (zz_Fx_b s z w m t)
theorem zz_Fg_b (s : Nat → Int) (z w m : Int) (t : Nat) : -32768 ≤ zz_Fg s z w m t ∧ zz_Fg s z w m t ≤ 32767 := zz_cut_b _
theorem zp_parts (S : zs_T) {D c0 : Nat → Int} (hd : ∀ t, t < 160 → (S.1 6 t).toInt = D t) (nd : ∀ t, -32768 ≤ D t ∧ D t ≤ 32767) (hc : ∀ t, t < 120 → (S.1 20 t).toInt = c0 t) (nc : ∀ t, t < 120 → -32768 ≤ c0 t ∧ c0 t ≤ 32767) (hz : ∀ m, m < 50 → (m < 5 ∨ 45 ≤ m) → (S.1 25 m).toInt = 0) :
    zQ (fun S1 => zF (fun k j => k = 21 ∨ k = 22 ∨ k = 23 ∨ k = 24 ∨ k = 26 ∨ k = 27 ∨ k = 28 ∨ k = 20 ∨ (k = 25 ∧ 5 ≤ j ∧ j < 45) ∨ (k = 3 ∧ 8 ≤ j ∧ j < 76)) zF_0 S S1 ∧ (∀ p, p < 4 → ∀ i, i < 17 → (S1.1 3 (8 + 17 * p + i)).toInt = zz_par (fun t => D (40 * p + t)) (zz_cs D c0 p) (120 + 40 * p) i) ∧ ∀ t, t < 280 → (S1.1 20 t).toInt = zz_cs D c0 4 t) (zl_2 zb_X1_describe_38 600 S (0 : Int32)) := by
  refine zQ_for _ 4 (fun n S1 => zF (fun k j => k = 21 ∨ k = 22 ∨ k = 23 ∨ k = 24 ∨ k = 26 ∨ k = 27 ∨ k = 28 ∨ k = 20 ∨ (k = 25 ∧ 5 ≤ j ∧ j < 45) ∨ (k = 3 ∧ 8 ≤ j ∧ j < 76)) zF_0 S S1 ∧ (∀ p, p < n → ∀ i, i < 17 → (S1.1 3 (8 + 17 * p + i)).toInt = zz_par (fun t => D (40 * p + t)) (zz_cs D c0 p) (120 + 40 * p) i) ∧ ∀ t, t < 120 + 40 * n → (S1.1 20 t).toInt = zz_cs D c0 n t) _ ?_ ?_ 600 0 S (by omega) (by omega) ⟨zF.rf S, fun p hp => absurd hp (Nat.not_lt_zero p), fun t ht => hc t (by omega)⟩
  · intro n Sc hn hP rec T hT
    obtain ⟨hF, q1, q2⟩ := hP
    have en : (nI n).toInt = n := za_nI (by omega)
    unfold zb_X1_describe_38
    refine zT_iff (by rw [za_le, en, show (4 : Int32).toInt = 4 by decide]; omega) (zT_b1 (zp_part Sc en hn (d := fun t => D (40 * n + t)) (c := zz_cs D c0 n) (fun t ht => by rw [hF.1 6 _ (by omega)]; exact hd _ (by omega)) (fun t _ => nd _) q2 (zz_cs_b nc n) (fun m hm hm2 => by rw [hF.1 25 _ (by omega)]; exact hz m hm hm2)) (fun S5 h5 => zT_lt (fun v6 e6 => ?_)))
    obtain ⟨f5, a5, b5⟩ := h5
    rw [e6, zc_1]
    refine hT _ ⟨hF.tr (f5.mo (fun k j h => by omega) (fun _ _ h => h)), fun p hp i hi => ?_, fun t ht => ?_⟩
    · by_cases c : p = n
      · subst c; exact a5 i hi
      · rw [f5.1 3 _ (by omega)]; exact q1 p (by omega) i hi
    · simp only [zz_cs, zz_cn]
      by_cases c : 120 + 40 * n ≤ t ∧ t < 120 + 40 * n + 40
      · rw [if_pos c]
        have := b5 (t - (120 + 40 * n)) (by omega)
        rw [show 120 + 40 * n + (t - (120 + 40 * n)) = t by omega] at this
        exact this
      · rw [if_neg c, f5.1 20 _ (by omega)]; exact q2 t (by omega)
  · intro Sc hP rec T hT
    unfold zb_X1_describe_38
    exact zT_ift (by decide) (hT _ hP)
theorem zq_parts (S : zs_T) {D c0 : Nat → Int} (hd : ∀ t, t < 160 → (S.2 50 t).toInt = D t) (nd : ∀ t, -32768 ≤ D t ∧ D t ≤ 32767) (hc : ∀ t, t < 120 → (S.2 48 t).toInt = c0 t) (nc : ∀ t, t < 120 → -32768 ≤ c0 t ∧ c0 t ≤ 32767) :
    zQ (fun S1 => zF (fun k j => (k = 43 ∧ 8 ≤ j ∧ j < 76) ∨ (k = 40 ∧ (j = 28 ∨ j = 29))) (fun k j => k = 51 ∨ k = 52 ∨ k = 58 ∨ (k = 48 ∧ j < 280)) S S1 ∧ (∀ p, p < 4 → ∀ i, i < 17 → (S1.1 43 (8 + 17 * p + i)).toInt = zz_par (fun t => D (40 * p + t)) (zz_cs D c0 p) (120 + 40 * p) i) ∧ ∀ t, t < 280 → (S1.2 48 t).toInt = zz_cs D c0 4 t) (zl_2 zb_X11_encode_55 600 S (0 : Int32)) := by
  refine zQ_for _ 4 (fun n S1 => zF (fun k j => (k = 43 ∧ 8 ≤ j ∧ j < 76) ∨ (k = 40 ∧ (j = 28 ∨ j = 29))) (fun k j => k = 51 ∨ k = 52 ∨ k = 58 ∨ (k = 48 ∧ j < 280)) S S1 ∧ (∀ p, p < n → ∀ i, i < 17 → (S1.1 43 (8 + 17 * p + i)).toInt = zz_par (fun t => D (40 * p + t)) (zz_cs D c0 p) (120 + 40 * p) i) ∧ ∀ t, t < 120 + 40 * n → (S1.2 48 t).toInt = zz_cs D c0 n t) _ ?_ ?_ 600 0 S (by omega) (by omega) ⟨zF.rf S, fun p hp => absurd hp (Nat.not_lt_zero p), fun t ht => hc t (by omega)⟩
  · intro n Sc hn hP rec T hT
    obtain ⟨hF, q1, q2⟩ := hP
    have en : (nI n).toInt = n := za_nI (by omega)
    refine zq_part Sc en hn (d := fun t => D (40 * n + t)) (c := zz_cs D c0 n) (fun t ht => by rw [hF.2 50 _ (by omega)]; exact hd _ (by omega)) (fun t _ => nd _) q2 (zz_cs_b nc n) rec T (fun S1 f5 a5 b5 => ?_)
    rw [zc_1]
    refine hT _ ⟨hF.tr (f5.mo (fun k j h => by omega) (fun k j h => by omega)), fun p hp i hi => ?_, fun t ht => ?_⟩
    · by_cases c : p = n
      · subst c; exact a5 i hi
      · rw [f5.1 43 _ (by omega)]; exact q1 p (by omega) i hi
    · simp only [zz_cs, zz_cn]
      by_cases c : 120 + 40 * n ≤ t ∧ t < 120 + 40 * n + 40
      · rw [if_pos c]
        have := b5 (t - (120 + 40 * n)) (by omega)
        rw [show 120 + 40 * n + (t - (120 + 40 * n)) = t by omega] at this
        exact this
      · rw [if_neg c, f5.2 48 _ (by omega)]; exact q2 t (by omega)
  · intro Sc hP rec T hT
    unfold zb_X11_encode_55
    exact zT_ift (by decide) (hT _ hP)
theorem zp_endFrame (k0 : Nat) (S : zs_T) : zQ (fun S1 => zF (fun k j => k = k0 ∧ j < 120) zF_0 S S1 ∧ ∀ t, t < 120 → S1.1 k0 t = S.1 k0 (160 + t)) (zf_X5_endFrame k0 S) := by
  refine zQ.of (fun T hT => ?_)
  unfold zf_X5_endFrame
  refine zT_lt (fun S1 e1 => hT _ ⟨⟨fun k j h => ?_, fun k j _ => by rw [e1]; rfl⟩, fun t ht => ?_⟩)
  · rw [e1]
    show va_up S.1 k0 _ k j = _
    unfold va_up
    by_cases c : k = k0
    · subst c
      rw [if_pos rfl]
      show (if 0 ≤ j ∧ j < 0 + 120 then _ else _) = _
      rw [if_neg (by omega)]
    · rw [if_neg c]
  · rw [e1]
    show va_up S.1 k0 _ k0 t = _
    unfold va_up
    rw [if_pos rfl]
    show (if 0 ≤ t ∧ t < 0 + 120 then S.1 k0 (160 + (t - 0)) else _) = _
    rw [if_pos (by omega), Nat.sub_zero]
theorem zq_settles (S : zs_T) {a1 : Int32} {q : Nat} (h1 : a1.toInt = q) (hq : q ≤ 280) : zQ (fun S1 => zF zF_0 (fun k j => k = 48 ∧ q ≤ j ∧ j < q + 120) S S1 ∧ ∀ t, t < 120 → (S1.2 48 (q + t)).toInt = (S.2 48 (q + 160 + t)).toInt) (zf_X11_settles S a1) := by
  unfold zf_X11_settles
  refine zQ.of (fun T hT => zT_b1 (zQ_mapL _ 120 48 (fun t => q + t) (fun j => q ≤ j ∧ j < q + 120) (fun t => (S.2 48 (q + 160 + t)).toInt) S (fun s t _ _ h => by omega) (fun t h => by omega) (by omega) ?_ ?_) (fun S1 h1 => hT S1 h1))
  · intro i Sc hi hF hU hW rec T hT
    have ei : (nI i).toInt = i := za_nI (by omega)
    have e1 : (a1 + (160 : Int32) + nI i).toInt = ((q + 160 + i : Nat) : Int) := by have := za_add (za_add h1 (show (160 : Int32).toInt = 160 by decide) (by omega) (by omega)) ei (by omega) (by omega); omega
    have e2 : (a1 + nI i).toInt = ((q + i : Nat) : Int) := by have := za_add h1 ei (by omega) (by omega); omega
    unfold zb_X11_settles_2
    refine zT_iff (by rw [za_le, ei, show (120 : Int32).toInt = 120 by decide]; omega) (zT_gi e1 (by omega) (zT_gi e2 (by omega) ?_))
    rw [za_pos e1, za_pos e2]
    refine zT_lt (fun S1 e3 => zT_lt (fun v2 e4 => ?_))
    rw [e4, zc_1, e3]
    exact hT _ (by rw [hF.2 48 _ (by omega)])
  · intro S1 hF rec T hT
    unfold zb_X11_settles_2
    exact zT_ift (by decide) hT
theorem zp_predict (S : zs_T) {s : Nat → Int} {z w m : Int} (hx : ∀ t, t < 160 → (S.1 6 t).toInt = zz_sx s z w m t) :
    zQ (fun S1 => zF (fun k j => k = 6 ∨ k = 10 ∨ k = 11 ∨ k = 12 ∨ k = 13 ∨ k = 14 ∨ (k = 3 ∧ j < 8)) zF_0 S S1 ∧ (∀ t, t < 160 → (S1.1 6 t).toInt = zz_Fx s z w m t) ∧ ∀ j, j < 8 → (S1.1 3 j).toInt = zz_Fp s z w m j) (zf_X6_predict S) := by
  refine zQ.of (fun T hT => ?_)
  unfold zf_X6_predict
  refine zT_b1 (zp_lower S hx (fun t _ => zz_sx_b s z w m t)) (fun S1 h1 => ?_)
  obtain ⟨f1, a1, b1⟩ := h1
  refine zT_b1 (zp_corr S1 (y := zz_Fy s z w m) a1 (zz_Fy_b s z w m)) (fun S2 h2 => ?_)
  obtain ⟨f2, a2⟩ := h2
  refine zT_b1 (zp_reflect S2 a2 (zz_K_b _) (zz_K_0 (zz_Fy_b s z w m))) (fun S3 h3 => ?_)
  obtain ⟨f3, a3⟩ := h3
  refine zT_b1 (zp_predict15 S3 (r := zz_Fr s z w m) a3 (fun t _ => by have := zz_Fr_b s z w m t; omega)) (fun S8 h8 => hT _ ⟨?_, fun t ht => ?_, h8.2⟩)
  · exact (((f1.mo (fun k j h => by omega) (fun _ _ h => h)).tr (f2.mo (fun k j h => by omega) (fun _ _ h => h))).tr (f3.mo (fun k j h => by omega) (fun _ _ h => h))).tr (h8.1.mo (fun k j h => by omega) (fun _ _ h => h))
  · rw [h8.1.1 6 _ (by omega), f3.1 6 _ (by omega), f2.1 6 _ (by omega)]; exact b1 t ht
/-- what stands before a frame is encoded, and what stands behind it -/
def zz_enc (s : Nat → Int) (z w m : Int) (h u c0 : Nat → Int) : Prop := (∀ t, t < 160 → -32768 ≤ s t ∧ s t ≤ 32767) ∧ (-16384 ≤ z ∧ z ≤ 16384) ∧ (-2147483648 ≤ w ∧ w ≤ 2147483647) ∧ (-32768 ≤ m ∧ m ≤ 32767) ∧ (∀ j, j < 8 → -32768 ≤ h j ∧ h j ≤ 32767) ∧ (∀ j, j < 8 → -32768 ≤ u j ∧ u j ≤ 32767) ∧ (∀ t, t < 120 → -32768 ≤ c0 t ∧ c0 t ≤ 32767)
theorem zz_FP_i {s : Nat → Int} {z w m : Int} {h u c0 : Nat → Int} {v : Nat → Int} (h1 : ∀ j, j < 8 → v j = zz_Fp s z w m j) (h2 : ∀ p, p < 4 → ∀ i, i < 17 → v (8 + 17 * p + i) = zz_par (fun t => zz_FD s z w m h u (40 * p + t)) (zz_cs (zz_FD s z w m h u) c0 p) (120 + 40 * p) i) : ∀ j, j < 76 → v j = zz_FP s z w m h u c0 j := by
  intro j hj
  unfold zz_FP
  by_cases c : j < 8
  · rw [if_pos c]; exact h1 j c
  · rw [if_neg c]
    have := h2 ((j - 8) / 17) (by omega) ((j - 8) % 17) (by omega)
    rw [show 8 + 17 * ((j - 8) / 17) + (j - 8) % 17 = j by omega] at this
    exact this
theorem zp_describe (S : zs_T) {s : Nat → Int} {z w m : Int} {h u c0 : Nat → Int} (hn : zz_enc s z w m h u c0) (hs : ∀ t, t < 160 → (S.1 1 t).toInt = s t) (ez : (S.1 8 0).toInt = z) (ew : (S.1 8 1).toInt = w) (em : (S.1 8 2).toInt = m) (hh : ∀ j, j < 8 → (S.1 16 j).toInt = h j) (hu : ∀ j, j < 8 → (S.1 7 j).toInt = u j) (hc : ∀ t, t < 120 → (S.1 20 t).toInt = c0 t) (hz : ∀ m, m < 50 → (m < 5 ∨ 45 ≤ m) → (S.1 25 m).toInt = 0) :
    zQ (fun S1 => zF (fun k j => k = 3 ∨ (k = 5 ∧ j = 9) ∨ (6 ≤ k ∧ k ≤ 28 ∧ ¬ (k = 25 ∧ (j < 5 ∨ 45 ≤ j)))) zF_0 S S1 ∧ (S1.1 8 0).toInt = (zz_st s z w m 160).1 ∧ (S1.1 8 1).toInt = (zz_st s z w m 160).2.1 ∧ (S1.1 8 2).toInt = (zz_st s z w m 160).2.2 ∧ (∀ j, j < 8 → (S1.1 16 j).toInt = zz_Fg s z w m j) ∧ (∀ j, j < 8 → (S1.1 7 j).toInt = zz_us (zz_R h (zz_Fg s z w m)) u (zz_Fx s z w m) 160 j) ∧ (∀ t, t < 120 → (S1.1 20 t).toInt = zz_cs (zz_FD s z w m h u) c0 4 (160 + t)) ∧ (∀ j, j < 76 → (S1.1 3 j).toInt = zz_FP s z w m h u c0 j) ∧ S1.1 5 9 = S.1 5 9 + (1 : Int32)) (zf_X1_describe S) := by
  obtain ⟨ns, nz, nw, nm, nh, nu, nc⟩ := hn
  refine zQ.of (fun T hT => ?_)
  unfold zf_X1_describe
  refine zT_b1 (zp_smooth S (fun t ht => by rw [hs t ht]; exact ns t ht) ⟨by rw [ez]; exact nz, by rw [ew]; exact nw, by rw [em]; exact nm⟩ hs ez ew em) (fun S1 h1 => ?_)
  obtain ⟨a1, b1, c1, d1, f1⟩ := h1
  refine zT_b1 (zp_predict S1 d1) (fun S2 h2 => ?_)
  obtain ⟨f2, a2, b2⟩ := h2
  refine zT_b1 (zp_learn 16 17 S2 (by decide) (by decide) (by decide) b2 (fun t ht => by have := zz_fn_b ht (zz_Fr s z w m t); unfold zz_Fp; omega) (g := h) (fun t ht => by rw [f2.1 16 _ (by omega), f1.1 16 _ (by omega)]; exact hh t ht)) (fun S3 h3 => ?_)
  obtain ⟨f3, a3, b3⟩ := h3
  refine zT_b1 (zp_takeAway S3 (h := h) (g := zz_Fg s z w m) (u := u) (x := zz_Fx s z w m) a3 b3 nh (fun t _ => zz_Fg_b s z w m t) nu (fun t _ => zz_Fx_b s z w m t) (fun j hj => by rw [f3.1 7 _ (by omega), f2.1 7 _ (by omega), f1.1 7 _ (by omega)]; exact hu j hj) (fun t ht => by rw [f3.1 6 _ (by omega)]; exact a2 t ht)) (fun S4 h4 => ?_)
  obtain ⟨f4, a4, b4⟩ := h4
  refine zT_b1 (zp_parts S4 (D := zz_FD s z w m h u) (c0 := c0) b4 (zz_FD_b s z w m h u) (fun t ht => by rw [f4.1 20 _ (by omega), f3.1 20 _ (by omega), f2.1 20 _ (by omega), f1.1 20 _ (by omega)]; exact hc t ht) nc (fun m hm hm2 => by rw [f4.1 25 _ (by omega), f3.1 25 _ (by omega), f2.1 25 _ (by omega), f1.1 25 _ (by omega)]; exact hz m hm hm2)) (fun S7 h7 => ?_)
  obtain ⟨f7, a7, b7⟩ := h7
  refine zT_b1 (zp_endFrame 20 S7) (fun S8 h8 => zT_lt (fun S9 e9 => hT _ ⟨?_, ?_, ?_, ?_, fun j hj => ?_, fun j hj => ?_, fun t ht => ?_, ?_, ?_⟩))
  · rw [e9]
    refine zF.wi ?_ _ (Or.inr (Or.inl ⟨rfl, rfl⟩))
    exact (((((f1.mo (fun k j h => by omega) (fun _ _ h => h)).tr (f2.mo (fun k j h => by omega) (fun _ _ h => h))).tr (f3.mo (fun k j h => by omega) (fun _ _ h => h))).tr (f4.mo (fun k j h => by omega) (fun _ _ h => h))).tr (f7.mo (fun k j h => by omega) (fun _ _ h => h))).tr (h8.1.mo (fun k j h => by omega) (fun _ _ h => h))
  · rw [e9, zs_in _ _ (by omega), h8.1.1 8 _ (by omega), f7.1 8 _ (by omega), f4.1 8 _ (by omega), f3.1 8 _ (by omega), f2.1 8 _ (by omega)]; exact a1
  · rw [e9, zs_in _ _ (by omega), h8.1.1 8 _ (by omega), f7.1 8 _ (by omega), f4.1 8 _ (by omega), f3.1 8 _ (by omega), f2.1 8 _ (by omega)]; exact b1
  · rw [e9, zs_in _ _ (by omega), h8.1.1 8 _ (by omega), f7.1 8 _ (by omega), f4.1 8 _ (by omega), f3.1 8 _ (by omega), f2.1 8 _ (by omega)]; exact c1
  · rw [e9, zs_in _ _ (by omega), h8.1.1 16 _ (by omega), f7.1 16 _ (by omega), f4.1 16 _ (by omega)]; exact b3 j hj
  · rw [e9, zs_in _ _ (by omega), h8.1.1 7 _ (by omega), f7.1 7 _ (by omega)]; exact a4 j hj
  · rw [e9, zs_in _ _ (by omega), h8.2 t ht]; exact b7 _ (by omega)
  · refine zz_FP_i (v := fun j => (S9.1 3 j).toInt) (fun j hj => ?_) (fun p hp i hi => ?_)
    · show (S9.1 3 j).toInt = _
      rw [e9, zs_in _ _ (by omega), h8.1.1 3 _ (by omega), f7.1 3 _ (by omega), f4.1 3 _ (by omega), f3.1 3 _ (by omega)]; exact b2 j hj
    · show (S9.1 3 (8 + 17 * p + i)).toInt = _
      rw [e9, zs_in _ _ (by omega), h8.1.1 3 _ (by omega)]; exact a7 p hp i hi
  · rw [e9, zs_ii, h8.1.1 5 _ (by omega), f7.1 5 _ (by omega), f4.1 5 _ (by omega), f3.1 5 _ (by omega), f2.1 5 _ (by omega), f1.1 5 _ (by omega)]
theorem zq_encode16 (S : zs_T) {s : Nat → Int} {z w m : Int} {h u c0 : Nat → Int} (hn : zz_enc s z w m h u c0) (hs : ∀ t, t < 160 → (S.2 41 t).toInt = s t) (ez : (S.2 40 9).toInt = z) (ew : (S.2 40 10).toInt = w) (em : (S.2 40 11).toInt = m) (hh : ∀ j, j < 8 → (S.2 45 j).toInt = h j) (hu : ∀ j, j < 8 → (S.2 46 (j + 1)).toInt = u j) (hc : ∀ t, t < 120 → (S.2 48 t).toInt = c0 t) :
    zQ (fun o => zF (fun k j => k = 43 ∨ (k = 40 ∧ (j = 0 ∨ j = 1 ∨ j = 7 ∨ j = 28 ∨ j = 29))) (fun k j => (k = 40 ∧ (j = 9 ∨ j = 10 ∨ j = 11)) ∨ (k = 45 ∧ j < 8) ∨ k = 46 ∨ (k = 48 ∧ j < 280) ∨ (49 ≤ k ∧ k ≤ 58)) S o.2 ∧ (o.2.2 40 9).toInt = (zz_st s z w m 160).1 ∧ (o.2.2 40 10).toInt = (zz_st s z w m 160).2.1 ∧ (o.2.2 40 11).toInt = (zz_st s z w m 160).2.2 ∧ (∀ j, j < 8 → (o.2.2 45 j).toInt = zz_Fg s z w m j) ∧ (∀ j, j < 8 → (o.2.2 46 (j + 1)).toInt = zz_us (zz_R h (zz_Fg s z w m)) u (zz_Fx s z w m) 160 j) ∧ (∀ t, t < 120 → (o.2.2 48 t).toInt = zz_cs (zz_FD s z w m h u) c0 4 (160 + t)) ∧ (∀ j, j < 76 → (o.2.1 43 j).toInt = zz_FP s z w m h u c0 j) ∧ o.2.1 40 7 = S.1 40 7 + (1 : Int32) ∧ o.2.1 40 1 = (0 : Int32) ∧ o.2.1 40 0 = (0 : Int32) ∧ o.1 = o.2.1 40 7) (zj_X11_encode_16 S (0 : Int32)) := by
  obtain ⟨ns, nz, nw, nm, nh, nu, nc⟩ := hn
  refine zQ.of (fun T hT => ?_)
  unfold zj_X11_encode_16
  refine zT_b2 (P := fun o => o.1 = (0 : Int32) ∧ o.2 = zs_wi S 40 0 (0 : Int32)) ⟨_, rfl, rfl, rfl⟩ (fun v1 S2 h2 => ?_)
  dsimp only at h2
  obtain ⟨e1, e2⟩ := h2
  refine zT_ift (by rw [e1]) ?_
  refine zT_b1 (zq_prep S2 (s := s) (z := z) (w := w) (m := m) ns ⟨nz, nw, nm⟩ (fun t ht => by rw [e2]; exact hs t ht) (by rw [e2]; exact ez) (by rw [e2]; exact ew) (by rw [e2]; exact em)) (fun S3 h3 => ?_)
  obtain ⟨a3, b3, c3, d3, f3⟩ := h3
  refine zT_b1 (zq_correlates S3 d3 (fun t _ => zz_sx_b s z w m t)) (fun S4 h4 => ?_)
  obtain ⟨f4, a4, b4⟩ := h4
  refine zT_b1 (zq_reflects S4 (K := zz_K (zz_Fy s z w m)) a4 (zz_K_b _) (zz_K_0 (zz_Fy_b s z w m))) (fun S5 h5 => ?_)
  obtain ⟨f5, a5⟩ := h5
  refine zT_b1 (zq_tellsFilter S5 (r := zz_Fr s z w m) a5 (fun t _ => by have := zz_Fr_b s z w m t; omega)) (fun S6 h6 => ?_)
  obtain ⟨f6, a6⟩ := h6
  refine zT_b1 (zq_makesG S6 (p := zz_Fp s z w m) a6 (fun t ht => by have := zz_fn_b ht (zz_Fr s z w m t); unfold zz_Fp; omega)) (fun S7 h7 => ?_)
  obtain ⟨f7, a7⟩ := h7
  refine zT_b1 (zq_leaves S7 (h := h) (g := zz_Fg s z w m) (u := u) (x := zz_Fx s z w m) (fun j hj => by rw [f7.2 45 _ (by omega), f6.2 45 _ (fun z => z), f5.2 45 _ (by omega), f4.2 45 _ (by omega), f3.2 45 _ (by omega), e2]; exact hh j hj) a7 nh (fun t _ => zz_Fg_b s z w m t) nu (fun t _ => zz_Fx_b s z w m t) (fun j hj => by rw [f7.2 46 _ (by omega), f6.2 46 _ (fun z => z), f5.2 46 _ (by omega), f4.2 46 _ (by omega), f3.2 46 _ (by omega), e2]; exact hu j hj) (fun t ht => by rw [f7.2 49 _ (by omega), f6.2 49 _ (fun z => z), f5.2 49 _ (by omega)]; exact b4 t ht)) (fun S8 h8 => ?_)
  obtain ⟨f8, a8, b8⟩ := h8
  refine zT_b1 (zq_keepsG S8 (a1 := 0) (q := 0) (by decide) (by omega) (g := zz_Fg s z w m) (fun j hj => by rw [f8.2 57 _ (by omega)]; exact a7 j hj)) (fun S9 h9 => ?_)
  obtain ⟨f9, a9⟩ := h9
  refine zT_b1 (zq_parts S9 (D := zz_FD s z w m h u) (c0 := c0) (fun t ht => by rw [f9.2 50 _ (by omega)]; exact b8 t ht) (zz_FD_b s z w m h u) (fun t ht => by rw [f9.2 48 _ (by omega), f8.2 48 _ (by omega), f7.2 48 _ (by omega), f6.2 48 _ (fun z => z), f5.2 48 _ (by omega), f4.2 48 _ (by omega), f3.2 48 _ (by omega), e2]; exact hc t ht) nc) (fun S27 h27 => ?_)
  obtain ⟨f27, a27, b27⟩ := h27
  refine zT_b1 (zq_settles S27 (a1 := 0) (q := 0) (by decide) (by omega)) (fun S28 h28 => zT_lt (fun S29 e29 => zT_lt (fun S30 e30 => hT _ ⟨?_, ?_, ?_, ?_, fun j hj => ?_, fun j hj => ?_, fun t ht => ?_, ?_, ?_, ?_, ?_, rfl⟩)))
  · refine ⟨fun k j hk => ?_, fun k j hk => ?_⟩
    · show S30.1 k j = _
      rw [e30, zs_in _ _ (by omega), e29, zs_in _ _ (by omega), h28.1.1 k j (fun z => z), f27.1 k j (by omega), f9.1 k j (fun z => z), f8.1 k j (fun z => z), f7.1 k j (fun z => z), f6.1 k j (by omega), f5.1 k j (fun z => z), f4.1 k j (fun z => z), f3.1 k j (fun z => z), e2, zs_in _ _ (by omega)]
    · show S30.2 k j = _
      rw [e30, e29]
      show S28.2 k j = _
      rw [h28.1.2 k j (by omega), f27.2 k j (by omega), f9.2 k j (by omega), f8.2 k j (by omega), f7.2 k j (by omega), f6.2 k j (fun z => z), f5.2 k j (by omega), f4.2 k j (by omega), f3.2 k j (by omega), e2]
      rfl
  · show (S30.2 40 9).toInt = _
    rw [e30, e29]
    show (S28.2 40 9).toInt = _
    rw [h28.1.2 _ _ (by omega), f27.2 _ _ (by omega), f9.2 _ _ (by omega), f8.2 _ _ (by omega), f7.2 _ _ (by omega), f6.2 _ _ (fun z => z), f5.2 _ _ (by omega), f4.2 _ _ (by omega)]; exact a3
  · show (S30.2 40 10).toInt = _
    rw [e30, e29]
    show (S28.2 40 10).toInt = _
    rw [h28.1.2 _ _ (by omega), f27.2 _ _ (by omega), f9.2 _ _ (by omega), f8.2 _ _ (by omega), f7.2 _ _ (by omega), f6.2 _ _ (fun z => z), f5.2 _ _ (by omega), f4.2 _ _ (by omega)]; exact b3
  · show (S30.2 40 11).toInt = _
    rw [e30, e29]
    show (S28.2 40 11).toInt = _
    rw [h28.1.2 _ _ (by omega), f27.2 _ _ (by omega), f9.2 _ _ (by omega), f8.2 _ _ (by omega), f7.2 _ _ (by omega), f6.2 _ _ (fun z => z), f5.2 _ _ (by omega), f4.2 _ _ (by omega)]; exact c3
  · show (S30.2 45 j).toInt = _
    rw [e30, e29]
    show (S28.2 45 j).toInt = _
    rw [h28.1.2 _ _ (by omega), f27.2 _ _ (by omega)]
    have := a9 j hj
    rw [Nat.zero_add] at this
    exact this
  · show (S30.2 46 (j + 1)).toInt = _
    rw [e30, e29]
    show (S28.2 46 (j + 1)).toInt = _
    rw [h28.1.2 _ _ (by omega), f27.2 _ _ (by omega), f9.2 _ _ (by omega)]; exact a8 j hj
  · show (S30.2 48 t).toInt = _
    rw [e30, e29]
    show (S28.2 48 t).toInt = _
    have := h28.2 t ht
    rw [Nat.zero_add, Nat.zero_add] at this
    rw [this]; exact b27 _ (by omega)
  · refine zz_FP_i (v := fun j => (S30.1 43 j).toInt) (fun j hj => ?_) (fun p hp i hi => ?_)
    · show (S30.1 43 j).toInt = _
      rw [e30, zs_in _ _ (by omega), e29, zs_in _ _ (by omega), h28.1.1 _ _ (fun z => z), f27.1 _ _ (by omega), f9.1 _ _ (fun z => z), f8.1 _ _ (fun z => z), f7.1 _ _ (fun z => z)]; exact a6 j hj
    · show (S30.1 43 (8 + 17 * p + i)).toInt = _
      rw [e30, zs_in _ _ (by omega), e29, zs_in _ _ (by omega), h28.1.1 _ _ (fun z => z)]; exact a27 p hp i hi
  · show S30.1 40 7 = _
    rw [e30, zs_ii, e29, zs_in _ _ (by omega), h28.1.1 _ _ (fun z => z), f27.1 _ _ (by omega), f9.1 _ _ (fun z => z), f8.1 _ _ (fun z => z), f7.1 _ _ (fun z => z), f6.1 _ _ (by omega), f5.1 _ _ (fun z => z), f4.1 _ _ (fun z => z), f3.1 _ _ (fun z => z), e2, zs_in _ _ (by omega)]
  · show S30.1 40 1 = _
    rw [e30, zs_in _ _ (by omega), e29, zs_ii]
  · show S30.1 40 0 = _
    rw [e30, zs_in _ _ (by omega), e29, zs_in _ _ (by omega), h28.1.1 _ _ (fun z => z), f27.1 _ _ (by omega), f9.1 _ _ (fun z => z), f8.1 _ _ (fun z => z), f7.1 _ _ (fun z => z), f6.1 _ _ (by omega), f5.1 _ _ (fun z => z), f4.1 _ _ (fun z => z), f3.1 _ _ (fun z => z), e2, zs_ii]
