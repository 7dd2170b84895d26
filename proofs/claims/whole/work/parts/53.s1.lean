def zz_t (s : Int) : Int := s / 8 * 4
def zz_w (z w s : Int) : Int := zz_wide (w / 32768 * 32735 + (zz_t s - z) * 32768 + zz_M (w - w / 32768 * 32768) 32735)
def zz_e (w : Int) : Int := zz_cut (zz_wide (w + 16384) / 32768)
def zz_x (e m : Int) : Int := zz_cut (e + zz_M m (-28180))
def zz_st (s : Nat → Int) (z w m : Int) : Nat → Int × Int × Int
  | 0 => (z, w, m)
  | n + 1 => (zz_t (s n), zz_w (zz_st s z w m n).1 (zz_st s z w m n).2.1 (s n), zz_e (zz_w (zz_st s z w m n).1 (zz_st s z w m n).2.1 (s n)))
def zz_sx (s : Nat → Int) (z w m : Int) (n : Nat) : Int := zz_x (zz_st s z w m (n + 1)).2.2 (zz_st s z w m n).2.2
theorem zz_st_b {s : Nat → Int} {z w m : Int} (hz : -16384 ≤ z ∧ z ≤ 16384) (hw : -2147483648 ≤ w ∧ w ≤ 2147483647) (hm : -32768 ≤ m ∧ m ≤ 32767) : ∀ n : Nat, (∀ t, t < n → -32768 ≤ s t ∧ s t ≤ 32767) → (-16384 ≤ (zz_st s z w m n).1 ∧ (zz_st s z w m n).1 ≤ 16384) ∧ (-2147483648 ≤ (zz_st s z w m n).2.1 ∧ (zz_st s z w m n).2.1 ≤ 2147483647) ∧ (-32768 ≤ (zz_st s z w m n).2.2 ∧ (zz_st s z w m n).2.2 ≤ 32767) := by
  intro n h
  cases n with
  | zero => exact ⟨hz, hw, hm⟩
  | succ n =>
    have := h n (by omega)
    refine ⟨?_, zz_wide_b _, zz_cut_b _⟩
    simp only [zz_st, zz_t]
    omega
theorem zp_next (S : zs_T) (a1 : Int32) (hs : -32768 ≤ a1.toInt ∧ a1.toInt ≤ 32767) (hz : -16384 ≤ (S.1 8 0).toInt ∧ (S.1 8 0).toInt ≤ 16384) (hm : -32768 ≤ (S.1 8 2).toInt ∧ (S.1 8 2).toInt ≤ 32767) :
    zQ (fun r => r.1.toInt = zz_x (zz_e (zz_w (S.1 8 0).toInt (S.1 8 1).toInt a1.toInt)) (S.1 8 2).toInt ∧ (r.2.1 8 0).toInt = zz_t a1.toInt ∧ (r.2.1 8 1).toInt = zz_w (S.1 8 0).toInt (S.1 8 1).toInt a1.toInt ∧ (r.2.1 8 2).toInt = zz_e (zz_w (S.1 8 0).toInt (S.1 8 1).toInt a1.toInt) ∧ zF (fun k j => k = 8 ∧ j < 3) zF_0 S r.2) (zf_X3_next S a1) := by
  have hw := za_b (S.1 8 1)
  refine zQ.of (fun T hT => ?_)
  unfold zf_X3_next
  refine zT_lt (fun v1 e_v1 => ?_)
  have h_v1 : v1.toInt = ((a1.toInt / 8) * 4) := by rw [e_v1]; exact (za_sl 2 4 (za_sr 3 8 rfl (show (3 : Int32).toInt = (3 : Nat) by decide) (by decide) (by decide)) (show (2 : Int32).toInt = (2 : Nat) by decide) (by decide) (by decide) (by omega) (by omega))
  refine zT_lt (fun v2 e_v2 => ?_)
  have h_v2 : v2.toInt = ((((a1.toInt / 8) * 4) - (S.1 8 0).toInt) * 32768) := by rw [e_v2]; exact (zb_mul (zb_i2l (za_sub h_v1 rfl (by omega) (by omega))) (show (32768 : Int64).toInt = 32768 by decide) (by omega) (by omega))
  refine zT_lt (fun S3 e_S3 => ?_)
  refine zT_lt (fun v4 e_v4 => ?_)
  have r_1 : S3.1 8 1 = S.1 8 1 := by rw [e_S3, zs_in _ _ (by omega)]
  have h_v4 : v4.toInt = ((S.1 8 1).toInt / 32768) := by rw [e_v4]; exact (za_sr 15 32768 (congrArg Int32.toInt r_1) (show (15 : Int32).toInt = (15 : Nat) by decide) (by decide) (by decide))
  refine zT_lt (fun v5 e_v5 => ?_)
  have r_2 : S3.1 8 1 = S.1 8 1 := by rw [e_S3, zs_in _ _ (by omega)]
  have h_v5 : v5.toInt = ((S.1 8 1).toInt - (((S.1 8 1).toInt / 32768) * 32768)) := by rw [e_v5]; exact (za_sub (congrArg Int32.toInt r_2) (za_mul h_v4 (show (32768 : Int32).toInt = 32768 by decide) (by omega) (by omega)) (by omega) (by omega))
  refine zT_lt (fun v6 e_v6 => ?_)
  have b_3 := zz_M_b ((S.1 8 1).toInt - (((S.1 8 1).toInt / 32768) * 32768)) 32735
  have h_v6 : v6.toInt = (zz_M ((S.1 8 1).toInt - (((S.1 8 1).toInt / 32768) * 32768)) 32735) := by rw [e_v6]; exact (zp_rounded h_v5 (show (32735 : Int32).toInt = 32735 by decide) (by omega) (by omega) (by omega) (by omega))
  refine zT_lt (fun v7 e_v7 => ?_)
  have b_4 := zz_wide_b (((((S.1 8 1).toInt / 32768) * 32735) + ((((a1.toInt / 8) * 4) - (S.1 8 0).toInt) * 32768)) + (zz_M ((S.1 8 1).toInt - (((S.1 8 1).toInt / 32768) * 32768)) 32735))
  have h_v7 : v7.toInt = (zz_wide (((((S.1 8 1).toInt / 32768) * 32735) + ((((a1.toInt / 8) * 4) - (S.1 8 0).toInt) * 32768)) + (zz_M ((S.1 8 1).toInt - (((S.1 8 1).toInt / 32768) * 32768)) 32735))) := by rw [e_v7]; exact (zp_near (zb_add (zb_add (zb_mul (zb_i2l h_v4) (show (32735 : Int64).toInt = 32735 by decide) (by omega) (by omega)) h_v2 (by omega) (by omega)) (zb_i2l h_v6) (by omega) (by omega)) )
  refine zT_lt (fun S8 e_S8 => ?_)
  refine zT_lt (fun v9 e_v9 => ?_)
  have r_5 : S8.1 8 1 = v7 := by rw [e_S8, zs_ii]
  have b_6 := zz_wide_b ((zz_wide (((((S.1 8 1).toInt / 32768) * 32735) + ((((a1.toInt / 8) * 4) - (S.1 8 0).toInt) * 32768)) + (zz_M ((S.1 8 1).toInt - (((S.1 8 1).toInt / 32768) * 32768)) 32735))) + 16384)
  have h_v9 : v9.toInt = (zz_wide ((zz_wide (((((S.1 8 1).toInt / 32768) * 32735) + ((((a1.toInt / 8) * 4) - (S.1 8 0).toInt) * 32768)) + (zz_M ((S.1 8 1).toInt - (((S.1 8 1).toInt / 32768) * 32768)) 32735))) + 16384)) := by rw [e_v9]; exact (zp_near (zb_add (zb_i2l ((congrArg Int32.toInt r_5).trans h_v7)) (show (16384 : Int64).toInt = 16384 by decide) (by omega) (by omega)) )
  refine zT_lt (fun v10 e_v10 => ?_)
  have b_7 := zz_cut_b ((zz_wide ((zz_wide (((((S.1 8 1).toInt / 32768) * 32735) + ((((a1.toInt / 8) * 4) - (S.1 8 0).toInt) * 32768)) + (zz_M ((S.1 8 1).toInt - (((S.1 8 1).toInt / 32768) * 32768)) 32735))) + 16384)) / 32768)
  have h_v10 : v10.toInt = (zz_cut ((zz_wide ((zz_wide (((((S.1 8 1).toInt / 32768) * 32735) + ((((a1.toInt / 8) * 4) - (S.1 8 0).toInt) * 32768)) + (zz_M ((S.1 8 1).toInt - (((S.1 8 1).toInt / 32768) * 32768)) 32735))) + 16384)) / 32768)) := by rw [e_v10]; exact (zp_cut (za_sr 15 32768 h_v9 (show (15 : Int32).toInt = (15 : Nat) by decide) (by decide) (by decide)) )
  refine zT_lt (fun v11 e_v11 => ?_)
  have r_8 : S8.1 8 2 = S.1 8 2 := by rw [e_S8, zs_in _ _ (by omega)]; rw [e_S3, zs_in _ _ (by omega)]
  have b_9 := zz_M_b (S.1 8 2).toInt (-28180)
  have h_v11 : v11.toInt = (zz_M (S.1 8 2).toInt (-28180)) := by rw [e_v11]; exact (zp_rounded (congrArg Int32.toInt r_8) (show (-28180 : Int32).toInt = -28180 by decide) (by omega) (by omega) (by omega) (by omega))
  refine zT_lt (fun v12 e_v12 => ?_)
  have b_10 := zz_cut_b ((zz_cut ((zz_wide ((zz_wide (((((S.1 8 1).toInt / 32768) * 32735) + ((((a1.toInt / 8) * 4) - (S.1 8 0).toInt) * 32768)) + (zz_M ((S.1 8 1).toInt - (((S.1 8 1).toInt / 32768) * 32768)) 32735))) + 16384)) / 32768)) + (zz_M (S.1 8 2).toInt (-28180)))
  have h_v12 : v12.toInt = (zz_cut ((zz_cut ((zz_wide ((zz_wide (((((S.1 8 1).toInt / 32768) * 32735) + ((((a1.toInt / 8) * 4) - (S.1 8 0).toInt) * 32768)) + (zz_M ((S.1 8 1).toInt - (((S.1 8 1).toInt / 32768) * 32768)) 32735))) + 16384)) / 32768)) + (zz_M (S.1 8 2).toInt (-28180)))) := by rw [e_v12]; exact (zp_cut (za_add h_v10 h_v11 (by omega) (by omega)) )
  refine zT_lt (fun S13 e_S13 => ?_)
  refine hT _ ⟨?_, ?_, ?_, ?_, ?_⟩
  · show v12.toInt = _; rw [h_v12]; rfl
  · rw [e_S13, zs_in _ _ (by omega), e_S8, zs_in _ _ (by omega), e_S3, zs_ii, h_v1]; rfl
  · rw [e_S13, zs_in _ _ (by omega), e_S8, zs_ii, h_v7]; rfl
  · rw [e_S13, zs_ii, h_v10]; rfl
  · rw [e_S13, e_S8, e_S3]; exact (((zF.rf S).wi _ (by omega)).wi _ (by omega)).wi _ (by omega)
theorem zp_smooth (S : zs_T) (hs : ∀ t, t < 160 → -32768 ≤ (S.1 1 t).toInt ∧ (S.1 1 t).toInt ≤ 32767) (hb : (-16384 ≤ (S.1 8 0).toInt ∧ (S.1 8 0).toInt ≤ 16384) ∧ (-2147483648 ≤ (S.1 8 1).toInt ∧ (S.1 8 1).toInt ≤ 2147483647) ∧ (-32768 ≤ (S.1 8 2).toInt ∧ (S.1 8 2).toInt ≤ 32767)) {s : Nat → Int} {z w m : Int} (es : ∀ t, t < 160 → (S.1 1 t).toInt = s t) (ez : (S.1 8 0).toInt = z) (ew : (S.1 8 1).toInt = w) (em : (S.1 8 2).toInt = m) :
    zQ (fun S1 => (S1.1 8 0).toInt = (zz_st s z w m 160).1 ∧ (S1.1 8 1).toInt = (zz_st s z w m 160).2.1 ∧ (S1.1 8 2).toInt = (zz_st s z w m 160).2.2 ∧ (∀ t, t < 160 → (S1.1 6 t).toInt = zz_sx s z w m t) ∧ zF (fun k j => (k = 8 ∧ j < 3) ∨ (k = 6 ∧ j < 160)) zF_0 S S1) (zf_X3_smooth S) := by
  rw [ez, ew, em] at hb
  have hs : ∀ t, t < 160 → -32768 ≤ s t ∧ s t ≤ 32767 := fun t ht => by rw [← es t ht]; exact hs t ht
  unfold zf_X3_smooth
  refine zQ.of (fun T hT => zT_b1 (zQ_for _ 160 (fun i S1 => (S1.1 8 0).toInt = (zz_st s z w m i).1 ∧ (S1.1 8 1).toInt = (zz_st s z w m i).2.1 ∧ (S1.1 8 2).toInt = (zz_st s z w m i).2.2 ∧ (∀ t, t < i → (S1.1 6 t).toInt = zz_sx s z w m t) ∧ zF (fun k j => (k = 8 ∧ j < 3) ∨ (k = 6 ∧ j < 160)) zF_0 S S1) (fun S1 => (S1.1 8 0).toInt = (zz_st s z w m 160).1 ∧ (S1.1 8 1).toInt = (zz_st s z w m 160).2.1 ∧ (S1.1 8 2).toInt = (zz_st s z w m 160).2.2 ∧ (∀ t, t < 160 → (S1.1 6 t).toInt = zz_sx s z w m t) ∧ zF (fun k j => (k = 8 ∧ j < 3) ∨ (k = 6 ∧ j < 160)) zF_0 S S1) ?_ ?_ 600 0 S (by omega) (by omega) ⟨ez, ew, em, fun t ht => absurd ht (Nat.not_lt_zero t), zF.rf S⟩) (fun S1 h1 => hT S1 h1))
  · intro i S1 hi h rec T hT
    obtain ⟨hz, hw, hm, hx, hF⟩ := h
    have hs1 : (S1.1 1 i).toInt = s i := by rw [hF.1 1 i (by omega)]; exact es i hi
    unfold zb_X3_smooth_2
    refine zT_iff (by rw [za_le]; have qa : ((160 : Int32)).toInt = 160 := (show (160 : Int32).toInt = 160 by decide); have qb : ((nI i)).toInt = (i : Int) := (za_nI (by omega)); omega) ?_
    have g_11 : ((nI i) : Int32).toInt = ((i : Nat) : Int) := by have q_ : ((nI i) : Int32).toInt = (i : Int) := (za_nI (by omega)); omega
    refine zT_gi g_11 (by omega) ?_
    try rw [za_pos g_11]
    refine zT_b2 (zp_next _ _ (by rw [hs1]; exact hs i hi) (by rw [hz]; exact (zz_st_b hb.1 hb.2.1 hb.2.2 i (fun t ht => hs t (by omega))).1) (by rw [hm]; exact (zz_st_b hb.1 hb.2.1 hb.2.2 i (fun t ht => hs t (by omega))).2.2)) (fun v1 S2 hn => ?_)
    obtain ⟨n1, n2, n3, n4, n5⟩ := hn
    rw [hz, hw, hm, hs1] at n1
    rw [hs1] at n2
    rw [hz, hw, hs1] at n3
    rw [hz, hw, hs1] at n4
    replace n5 : zF (fun k j => k = 8 ∧ j < 3) zF_0 S1 S2 := n5
    refine zT_gi g_11 (by omega) ?_
    refine zT_lt (fun S3 e_S3 => ?_)
    refine zT_lt (fun v4 e_v4 => ?_)
    have h_v4 : v4.toInt = ((i : Int) + 1) := by rw [e_v4]; exact (za_add (za_nI (by omega)) (show (1 : Int32).toInt = 1 by decide) (by omega) (by omega))
    rw [e_v4, zc_1]
    refine hT _ ⟨?_, ?_, ?_, ?_, ?_⟩
    · rw [e_S3, zs_in _ _ (by omega)]; exact n2
    · rw [e_S3, zs_in _ _ (by omega)]; exact n3
    · rw [e_S3, zs_in _ _ (by omega)]; exact n4
    · intro t ht
      by_cases ct : t = i
      · subst ct; rw [e_S3, zs_ii]; exact n1
      · rw [e_S3, zs_in _ _ (by omega), n5.1 6 t (by omega)]; exact hx t (by omega)
    · rw [e_S3]; exact (hF.tr (n5.mo (fun k j h => Or.inl h) (fun _ _ h => h))).wi _ (Or.inr ⟨rfl, hi⟩)
  · intro S1 h rec T hT
    obtain ⟨hz, hw, hm, hx, hF⟩ := h
    unfold zb_X3_smooth_2
    refine zT_ift (by rw [za_le]; have qa : ((160 : Int32)).toInt = 160 := (show (160 : Int32).toInt = 160 by decide); have qb : ((nI 160)).toInt = (160 : Int) := (za_nI (by omega)); omega) ?_
    exact hT _ ⟨hz, hw, hm, hx, hF⟩
theorem zq_prep (S : zs_T) {s : Nat → Int} {z w m : Int} (hs : ∀ t, t < 160 → -32768 ≤ s t ∧ s t ≤ 32767) (hb : (-16384 ≤ z ∧ z ≤ 16384) ∧ (-2147483648 ≤ w ∧ w ≤ 2147483647) ∧ (-32768 ≤ m ∧ m ≤ 32767)) (es : ∀ t, t < 160 → (S.2 41 t).toInt = s t) (ez : (S.2 40 9).toInt = z) (ew : (S.2 40 10).toInt = w) (em : (S.2 40 11).toInt = m) :
    zQ (fun S1 => (S1.2 40 9).toInt = (zz_st s z w m 160).1 ∧ (S1.2 40 10).toInt = (zz_st s z w m 160).2.1 ∧ (S1.2 40 11).toInt = (zz_st s z w m 160).2.2 ∧ (∀ t, t < 160 → (S1.2 49 t).toInt = zz_sx s z w m t) ∧ zF zF_0 (fun k j => (k = 40 ∧ (j = 9 ∨ j = 10 ∨ j = 11)) ∨ (k = 49 ∧ j < 160)) S S1) (zf_X11_prepares S) := by
  unfold zf_X11_prepares
  refine zQ.of (fun T hT => zT_b1 (zQ_for _ 160 (fun i S1 => (S1.2 40 9).toInt = (zz_st s z w m i).1 ∧ (S1.2 40 10).toInt = (zz_st s z w m i).2.1 ∧ (S1.2 40 11).toInt = (zz_st s z w m i).2.2 ∧ (∀ t, t < i → (S1.2 49 t).toInt = zz_sx s z w m t) ∧ zF zF_0 (fun k j => (k = 40 ∧ (j = 9 ∨ j = 10 ∨ j = 11)) ∨ (k = 49 ∧ j < 160)) S S1) (fun S1 => (S1.2 40 9).toInt = (zz_st s z w m 160).1 ∧ (S1.2 40 10).toInt = (zz_st s z w m 160).2.1 ∧ (S1.2 40 11).toInt = (zz_st s z w m 160).2.2 ∧ (∀ t, t < 160 → (S1.2 49 t).toInt = zz_sx s z w m t) ∧ zF zF_0 (fun k j => (k = 40 ∧ (j = 9 ∨ j = 10 ∨ j = 11)) ∨ (k = 49 ∧ j < 160)) S S1) ?_ ?_ 600 0 S (by omega) (by omega) ⟨ez, ew, em, fun t ht => absurd ht (Nat.not_lt_zero t), zF.rf S⟩) (fun S1 h1 => hT S1 h1))
  · intro i S1 hi h rec T hT
    obtain ⟨hz, hw, hm, hx, hF⟩ := h
    have hs1 : (S1.2 41 i).toInt = s i := by rw [hF.2 41 i (by omega)]; exact es i hi
    have hsb := hs i hi
    have hbb := zz_st_b hb.1 hb.2.1 hb.2.2 i (fun t ht => hs t (by omega))
    unfold zb_X11_prepares_2
    refine zT_iff (by rw [za_le]; have qa : ((160 : Int32)).toInt = 160 := (show (160 : Int32).toInt = 160 by decide); have qb : ((nI i)).toInt = (i : Int) := (za_nI (by omega)); omega) ?_
    have g_12 : ((nI i) : Int32).toInt = ((i : Nat) : Int) := by have q_ : ((nI i) : Int32).toInt = (i : Int) := (za_nI (by omega)); omega
    refine zT_gi g_12 (by omega) ?_
    try rw [za_pos g_12]
    refine zT_lt (fun v1 e_v1 => ?_)
    have h_v1 : v1.toInt = (((s i) / 8) * 4) := by rw [e_v1]; exact (zb_mul (zb_sr 3 8 hs1 (show (3 : Int32).toInt = (3 : Nat) by decide) (by decide) (by decide)) (show (4 : Int64).toInt = 4 by decide) (by omega) (by omega))
    refine zT_lt (fun v2 e_v2 => ?_)
    have h_v2 : v2.toInt = (((((s i) / 8) * 4) - (zz_st s z w m i).1) * 32768) := by rw [e_v2]; exact (zb_mul (zb_sub h_v1 hz (by omega) (by omega)) (show (32768 : Int64).toInt = 32768 by decide) (by omega) (by omega))
    refine zT_lt (fun S3 e_S3 => ?_)
    refine zT_lt (fun v4 e_v4 => ?_)
    have r_13 : S3.2 40 10 = S1.2 40 10 := by rw [e_S3, zs_ln _ _ (by omega)]
    have h_v4 : v4.toInt = ((zz_st s z w m i).2.1 / 32768) := by rw [e_v4]; exact (zb_sr 15 32768 ((congrArg Int64.toInt r_13).trans hw) (show (15 : Int32).toInt = (15 : Nat) by decide) (by decide) (by decide))
    refine zT_lt (fun v5 e_v5 => ?_)
    have r_14 : S3.2 40 10 = S1.2 40 10 := by rw [e_S3, zs_ln _ _ (by omega)]
    have h_v5 : v5.toInt = ((zz_st s z w m i).2.1 - (((zz_st s z w m i).2.1 / 32768) * 32768)) := by rw [e_v5]; exact (zb_sub ((congrArg Int64.toInt r_14).trans hw) (zb_mul h_v4 (show (32768 : Int64).toInt = 32768 by decide) (by omega) (by omega)) (by omega) (by omega))
    refine zT_lt (fun v6 e_v6 => ?_)
    have b_15 := zz_M_b ((zz_st s z w m i).2.1 - (((zz_st s z w m i).2.1 / 32768) * 32768)) 32735
    have h_v6 : v6.toInt = (zz_M ((zz_st s z w m i).2.1 - (((zz_st s z w m i).2.1 / 32768) * 32768)) 32735) := by rw [e_v6]; exact (zq_rounded h_v5 (show (32735 : Int64).toInt = 32735 by decide) (by omega) (by omega) (by omega) (by omega))
    refine zT_lt (fun v7 e_v7 => ?_)
    have b_16 := zz_wide_b (((((zz_st s z w m i).2.1 / 32768) * 32735) + (((((s i) / 8) * 4) - (zz_st s z w m i).1) * 32768)) + (zz_M ((zz_st s z w m i).2.1 - (((zz_st s z w m i).2.1 / 32768) * 32768)) 32735))
    have h_v7 : v7.toInt = (zz_wide (((((zz_st s z w m i).2.1 / 32768) * 32735) + (((((s i) / 8) * 4) - (zz_st s z w m i).1) * 32768)) + (zz_M ((zz_st s z w m i).2.1 - (((zz_st s z w m i).2.1 / 32768) * 32768)) 32735))) := by rw [e_v7]; exact (zq_wide (zb_add (zb_add (zb_mul h_v4 (show (32735 : Int64).toInt = 32735 by decide) (by omega) (by omega)) h_v2 (by omega) (by omega)) h_v6 (by omega) (by omega)) )
    refine zT_lt (fun S8 e_S8 => ?_)
    refine zT_lt (fun v9 e_v9 => ?_)
    have r_17 : S8.2 40 10 = v7 := by rw [e_S8, zs_ll]
    have b_18 := zz_wide_b ((zz_wide (((((zz_st s z w m i).2.1 / 32768) * 32735) + (((((s i) / 8) * 4) - (zz_st s z w m i).1) * 32768)) + (zz_M ((zz_st s z w m i).2.1 - (((zz_st s z w m i).2.1 / 32768) * 32768)) 32735))) + 16384)
    have h_v9 : v9.toInt = (zz_wide ((zz_wide (((((zz_st s z w m i).2.1 / 32768) * 32735) + (((((s i) / 8) * 4) - (zz_st s z w m i).1) * 32768)) + (zz_M ((zz_st s z w m i).2.1 - (((zz_st s z w m i).2.1 / 32768) * 32768)) 32735))) + 16384)) := by rw [e_v9]; exact (zq_wide (zb_add ((congrArg Int64.toInt r_17).trans h_v7) (show (16384 : Int64).toInt = 16384 by decide) (by omega) (by omega)) )
    refine zT_lt (fun v10 e_v10 => ?_)
    have b_19 := zz_cut_b ((zz_wide ((zz_wide (((((zz_st s z w m i).2.1 / 32768) * 32735) + (((((s i) / 8) * 4) - (zz_st s z w m i).1) * 32768)) + (zz_M ((zz_st s z w m i).2.1 - (((zz_st s z w m i).2.1 / 32768) * 32768)) 32735))) + 16384)) / 32768)
    have h_v10 : v10.toInt = (zz_cut ((zz_wide ((zz_wide (((((zz_st s z w m i).2.1 / 32768) * 32735) + (((((s i) / 8) * 4) - (zz_st s z w m i).1) * 32768)) + (zz_M ((zz_st s z w m i).2.1 - (((zz_st s z w m i).2.1 / 32768) * 32768)) 32735))) + 16384)) / 32768)) := by rw [e_v10]; exact (zq_cut (zb_sr 15 32768 h_v9 (show (15 : Int32).toInt = (15 : Nat) by decide) (by decide) (by decide)) )
    refine zT_lt (fun v11 e_v11 => ?_)
    have r_20 : S8.2 40 11 = S1.2 40 11 := by rw [e_S8, zs_ln _ _ (by omega)]; rw [e_S3, zs_ln _ _ (by omega)]
    have b_21 := zz_M_b (zz_st s z w m i).2.2 (-28180)
    have h_v11 : v11.toInt = (zz_M (zz_st s z w m i).2.2 (-28180)) := by rw [e_v11]; exact (zq_rounded ((congrArg Int64.toInt r_20).trans hm) (show (-28180 : Int64).toInt = -28180 by decide) (by omega) (by omega) (by omega) (by omega))
    refine zT_lt (fun v12 e_v12 => ?_)
    have b_22 := zz_cut_b ((zz_cut ((zz_wide ((zz_wide (((((zz_st s z w m i).2.1 / 32768) * 32735) + (((((s i) / 8) * 4) - (zz_st s z w m i).1) * 32768)) + (zz_M ((zz_st s z w m i).2.1 - (((zz_st s z w m i).2.1 / 32768) * 32768)) 32735))) + 16384)) / 32768)) + (zz_M (zz_st s z w m i).2.2 (-28180)))
    have h_v12 : v12.toInt = (zz_cut ((zz_cut ((zz_wide ((zz_wide (((((zz_st s z w m i).2.1 / 32768) * 32735) + (((((s i) / 8) * 4) - (zz_st s z w m i).1) * 32768)) + (zz_M ((zz_st s z w m i).2.1 - (((zz_st s z w m i).2.1 / 32768) * 32768)) 32735))) + 16384)) / 32768)) + (zz_M (zz_st s z w m i).2.2 (-28180)))) := by rw [e_v12]; exact (zq_cut (zb_add h_v10 h_v11 (by omega) (by omega)) )
    refine zT_gi g_12 (by omega) ?_
    refine zT_lt (fun S13 e_S13 => ?_)
    refine zT_lt (fun S14 e_S14 => ?_)
    refine zT_lt (fun v15 e_v15 => ?_)
    have h_v15 : v15.toInt = ((i : Int) + 1) := by rw [e_v15]; exact (za_add (za_nI (by omega)) (show (1 : Int32).toInt = 1 by decide) (by omega) (by omega))
    rw [e_v15, zc_1]
    refine hT _ ⟨?_, ?_, ?_, ?_, ?_⟩
    · rw [e_S14, zs_ln _ _ (by omega), e_S13, zs_ln _ _ (by omega), e_S8, zs_ln _ _ (by omega), e_S3, zs_ll, h_v1]; rfl
    · rw [e_S14, zs_ln _ _ (by omega), e_S13, zs_ln _ _ (by omega), e_S8, zs_ll, h_v7]; rfl
    · rw [e_S14, zs_ll, h_v10]; rfl
    · intro t ht
      by_cases ct : t = i
      · subst ct; rw [e_S14, zs_ln _ _ (by omega), e_S13, zs_ll, h_v12]; rfl
      · rw [e_S14, zs_ln _ _ (by omega), e_S13, zs_ln _ _ (by omega), e_S8, zs_ln _ _ (by omega), e_S3, zs_ln _ _ (by omega)]; exact hx t (by omega)
    · rw [e_S14, e_S13, e_S8, e_S3]; exact (((hF.wl _ (by omega)).wl _ (by omega)).wl _ (by omega)).wl _ (by omega)
  · intro S1 h rec T hT
    obtain ⟨hz, hw, hm, hx, hF⟩ := h
    unfold zb_X11_prepares_2
    refine zT_ift (by rw [za_le]; have qa : ((160 : Int32)).toInt = 160 := (show (160 : Int32).toInt = 160 by decide); have qb : ((nI 160)).toInt = (160 : Int) := (za_nI (by omega)); omega) ?_
    exact hT _ ⟨hz, hw, hm, hx, hF⟩
