/-! fill -/
theorem zz_bm (x : Int) : Int.bmod x 65536 = if x % 65536 < 32768 then x % 65536 else x % 65536 - 65536 := by
  rw [Int.bmod_def]; rfl
theorem zz_bm32 (x : Int) : Int.bmod x 4294967296 = if x % 4294967296 < 2147483648 then x % 4294967296 else x % 4294967296 - 4294967296 := by
  rw [Int.bmod_def]; rfl
theorem za_short (a : Int32) : (Int16.toInt32 (Int32.toInt16 a)).toInt = Int.bmod a.toInt 65536 := by
  rw [Int16.toInt_toInt32, Int32.toInt_toInt16]
theorem za_fill (v b : Int32) (i : Nat) (hi : i < 1000) : (Int16.toInt32 (Int32.toInt16 (v + nI i * b))).toInt = Int.bmod (v.toInt + i * b.toInt) 65536 := by
  have e1 : (nI i * b).toInt = Int.bmod (i * b.toInt) 4294967296 := by
    rw [Int32.toInt_mul, za_nI (by omega)]
  have e2 : (v + nI i * b).toInt = Int.bmod (v.toInt + (nI i * b).toInt) 4294967296 := by
    rw [Int32.toInt_add]
  rw [za_short, e2, e1]
  generalize (i : Int) * b.toInt = p
  rw [zz_bm, zz_bm, zz_bm32, zz_bm32]
  split <;> split <;> split <;> (try split) <;> (try split) <;> omega
theorem zb_and16 (x : Int64) : (x &&& (65535 : Int64)).toInt = x.toInt % 65536 := by
  have h1 : (x &&& (65535 : Int64)).toBitVec.toNat = x.toBitVec.toNat % 65536 := by
    show (x.toBitVec &&& (65535 : Int64).toBitVec).toNat = _
    rw [BitVec.toNat_and, show ((65535 : Int64).toBitVec).toNat = 2 ^ 16 - 1 by decide, Nat.and_two_pow_sub_one_eq_mod]
  have hc : x.toInt = if 2 * x.toBitVec.toNat < 2 ^ 64 then (x.toBitVec.toNat : Int) else (x.toBitVec.toNat : Int) - ((2 ^ 64 : Nat) : Int) := BitVec.toInt_eq_toNat_cond x.toBitVec
  have hc2 : (x &&& (65535 : Int64)).toInt = if 2 * (x &&& (65535 : Int64)).toBitVec.toNat < 2 ^ 64 then ((x &&& (65535 : Int64)).toBitVec.toNat : Int) else ((x &&& (65535 : Int64)).toBitVec.toNat : Int) - ((2 ^ 64 : Nat) : Int) := BitVec.toInt_eq_toNat_cond (x &&& (65535 : Int64)).toBitVec
  rw [h1] at hc2
  have hlt : x.toBitVec.toNat % 65536 < 65536 := Nat.mod_lt _ (by omega)
  rw [if_pos (by omega)] at hc2
  rw [hc2, hc]
  split <;> omega
theorem zp_fillc (S : zs_T) {n m : Nat} (hnm : n + m ≤ 160) {a1 a2 a3 : Int32} (h3 : a3.toInt = m) (hc : S.1 0 6 = nI n) :
    zQ (fun S1 => zF (fun k j => k = 1 ∧ n ≤ j ∧ j < n + m) zF_0 S S1 ∧ ∀ t, t < m → (S1.1 1 (n + t)).toInt = Int.bmod (a1.toInt + t * a2.toInt) 65536) (zl_2 (zb_X10_fill_46 a1 a2 a3) 600 S (0 : Int32)) := by
  have en : (nI n).toInt = n := za_nI (by omega)
  refine zQ_mapI _ m 1 (fun t => n + t) (fun j => n ≤ j ∧ j < n + m) _ S (fun s t _ _ h => by omega) (fun t h => by omega) (by omega) ?_ ?_
  · intro i Sc hi hF hU hW rec T hT
    have ei : (nI i).toInt = i := za_nI (by omega)
    have c0 : Sc.1 0 6 = nI n := by rw [hF.1 0 _ (by omega)]; exact hc
    have e1 : (nI n + nI i).toInt = ((n + i : Nat) : Int) := by have := za_add en ei (by omega) (by omega); omega
    unfold zb_X10_fill_46
    rw [c0]
    refine zT_iff (by rw [za_le, h3, ei]; omega) (zT_gi e1 (by omega) ?_)
    rw [za_pos e1]
    refine zT_lt (fun S1 e2 => zT_lt (fun v2 e3 => ?_))
    rw [e3, zc_1, e2]
    exact hT _ (za_fill a1 a2 i (by omega))
  · intro S1 hF rec T hT
    have ei : (nI m).toInt = m := za_nI (by omega)
    unfold zb_X10_fill_46
    exact zT_ift (by rw [za_le, h3, ei]; omega) hT
theorem zq_fillc (S : zs_T) {n m : Nat} (hnm : n + m ≤ 160) {a1 a2 a3 : Int32} (h3 : a3.toInt = m) (hc : S.1 40 1 = nI n) :
    zQ (fun S1 => zF (fun k j => k = 40 ∧ j = 1) (fun k j => k = 41 ∧ n ≤ j ∧ j < n + m) S S1 ∧ S1.1 40 1 = nI (n + m) ∧ ∀ t, t < m → (S1.2 41 (n + t)).toInt = Int.bmod (a1.toInt + t * a2.toInt) 65536) (zl_3 (zb_X11_fill_48 a2 a3) 600 S (Int32.toInt64 a1) (0 : Int32)) := by
  have b1 := za_b a1
  have b2 := za_b a2
  refine zQ_for3 _ m (fun i S1 x => zF (fun k j => k = 40 ∧ j = 1) (fun k j => k = 41 ∧ n ≤ j ∧ j < n + m) S S1 ∧ S1.1 40 1 = nI (n + i) ∧ x.toInt = a1.toInt + i * a2.toInt ∧ ∀ t, t < i → (S1.2 41 (n + t)).toInt = Int.bmod (a1.toInt + t * a2.toInt) 65536) _ ?_ ?_ 600 0 S (Int32.toInt64 a1) (by omega) (by omega) ⟨zF.rf S, hc, by rw [zb_i2l rfl]; simp, fun t ht => absurd ht (Nat.not_lt_zero t)⟩
  · intro i Sc x hi hP rec T hT
    obtain ⟨hF, q1, q2, q3⟩ := hP
    have ei : (nI i).toInt = i := za_nI (by omega)
    have en : (nI (n + i)).toInt = ((n + i : Nat) : Int) := za_nI (by omega)
    have hm := zn_mul (a := (i : Int)) (b := a2.toInt) (A := 160) (B := 2147483648) (by omega) (by omega) (by omega) (by omega)
    have ha := zb_and16 x
    rw [q2] at ha
    have k90 : ∀ z : Int64, z.toInt = Int.bmod (a1.toInt + i * a2.toInt) 65536 → T (zj_X11_fill_90 rec Sc a2 a3 x (nI i) z (Sc.1 40 1)) := by
      intro z hz
      unfold zj_X11_fill_90
      rw [q1]
      refine zT_gi en (by omega) ?_
      rw [za_pos en]
      refine zT_lt (fun S5 e5 => zT_lt (fun S6 e6 => zT_lt (fun v7 e7 => zT_lt (fun v8 e8 => ?_))))
      have c5 : S5.1 40 1 = nI (n + i) := by rw [e5]; exact q1
      rw [e8, zc_1]
      refine hT _ _ ⟨?_, ?_, ?_, fun t ht => ?_⟩
      · rw [e6, e5]; exact (hF.wl _ ⟨rfl, by omega⟩).wi _ ⟨rfl, rfl⟩
      · rw [e6, zs_ii, c5, zc_1]; rfl
      · rw [e7, zb_add q2 (zb_i2l (a := a2) rfl) (by omega) (by omega)]
        push_cast
        rw [Int.add_mul]; omega
      · rw [e6]
        show (S5.2 41 (n + t)).toInt = _
        rw [e5]
        by_cases ct : t = i
        · subst ct; rw [zs_ll]; exact hz
        · rw [zs_ln _ _ (by omega)]; exact q3 t (by omega)
    unfold zb_X11_fill_48
    refine zT_iff (by rw [za_le, h3, ei]; omega) (zT_lt (fun v4 e4 => zT_if (fun c => k90 _ ?_) (fun c => k90 _ ?_)))
    · rw [zb_le, e4, ha, show (32767 : Int64).toInt = 32767 by decide] at c
      rw [e4, ha, zz_bm, if_pos (by omega)]
    · rw [zb_le, e4, ha, show (32767 : Int64).toInt = 32767 by decide] at c
      rw [e4, zb_sub ha (show (65536 : Int64).toInt = 65536 by decide) (by omega) (by omega), zz_bm, if_neg (by omega)]
  · intro Sc x hP rec T hT
    obtain ⟨hF, q1, q2, q3⟩ := hP
    have ei : (nI m).toInt = m := za_nI (by omega)
    unfold zb_X11_fill_48
    exact zT_ift (by rw [za_le, h3, ei]; omega) (hT _ ⟨hF, q1, q3⟩)
theorem zp_fill (S : zs_T) (h : zI S) (a1 a2 a3 : Int32) : zQ (zO (fun S => zf_X11_fill S a1 a2 a3)) (zf_X10_fill S a1 a2 a3) := by
  obtain ⟨⟨n, hn, s1, s2, s3⟩, i2, i3, i4, i5, i6⟩ := id h
  have en : (nI n).toInt = n := za_nI (by omega)
  have e0 : (0 : Int32).toInt = 0 := by decide
  have e160 : (160 : Int32).toInt = 160 := by decide
  have no : zQ (zR 1) (zj_X11_fill_12 S a1 a2 a3) := by
    refine zQ.of (fun T hT => ?_)
    unfold zj_X11_fill_12 zj_X11_fill_33
    refine zT_b2 (zr_1 S) (fun v1 S2 h2 => ?_)
    dsimp only at h2
    obtain ⟨q1, q2⟩ := h2
    subst q1; subst q2
    exact zT_iff (by decide) (hT _ (zR_no (by decide) h 0))
  refine zQ.of (fun T hT => ?_)
  unfold zf_X10_fill
  rw [s1]
  refine zT_if (fun c => hT _ ⟨Or.inr (Or.inl rfl), ?_⟩) (fun c => zT_if (fun c1 => zT_if (fun c2 => ?_) (fun c2 => hT _ ⟨Or.inr (Or.inr rfl), ?_⟩)) (fun c1 => hT _ ⟨Or.inr (Or.inl rfl), ?_⟩))
  · show zQ (zR 1) (zf_X11_fill (zx_o 1 0 S) a1 a2 a3)
    rw [zx_1]; unfold zf_X11_fill; rw [if_pos c]; exact no
  · have c' := c
    have c1' := c1
    have c2' := c2
    rw [za_lt, e0] at c
    rw [za_le, e160] at c1
    have ea : a3.toInt = ((a3.toInt.toNat : Nat) : Int) := by omega
    generalize a3.toInt.toNat = m at ea
    have esum := za_add en ea (by omega) (by omega)
    rw [za_le, esum, e160] at c2
    refine zT_b1 (zp_fillc S (n := n) (m := m) (by omega) ea s1) (fun S3 h3 => zT_lt (fun S4 e4 => ?_))
    obtain ⟨f3, x3⟩ := h3
    have c3 : S3.1 0 6 = nI n := by rw [f3.1 0 _ (by omega)]; exact s1
    have r4 : S4.1 0 6 = nI (n + m) := by
      rw [e4, zs_ii, c3]
      exact za_of (by rw [esum]; omega)
    have f4 : zF (fun k j => (k = 1 ∧ n ≤ j ∧ j < n + m) ∨ (k = 0 ∧ j = 6)) zF_0 S S4 := by rw [e4]; exact (f3.mo (fun k j z => Or.inl z) (fun _ _ z => z)).wi _ (Or.inr ⟨rfl, rfl⟩)
    have x4 : ∀ t, t < m → (S4.1 1 (n + t)).toInt = Int.bmod (a1.toInt + t * a2.toInt) 65536 := fun t ht => by rw [e4, zs_in _ _ (by omega)]; exact x3 t ht
    refine hT _ ⟨Or.inl rfl, ?_⟩
    show zQ (zR 0) (zf_X11_fill (zx_o 0 (S4.1 0 6) S4) a1 a2 a3)
    rw [zx_0, r4]
    refine zQ.of (fun T hT => ?_)
    have f5 := zS5_f S4 (nI (n + m))
    have c41 : (zs_wl S4 59 0 (Int32.toInt64 (nI (n + m)))).1 40 1 = nI n := (f4.1 40 1 (by omega)).trans s2
    unfold zf_X11_fill
    rw [c41]
    refine zT_iff c' (zT_ift c1' (zT_ift c2' ?_))
    unfold zj_X11_fill_33
    refine zT_b2 (zr_0 _) (fun v1 S5 h2 => ?_)
    dsimp only at h2
    obtain ⟨q1, q2⟩ := h2
    subst q1
    have q2 : S5 = zS5 S4 (nI (n + m)) := q2
    have c5 : S5.1 40 1 = nI n := by rw [q2, f5.1 40 _ (by omega)]; exact c41
    refine zT_ift rfl (zT_lt (fun v3 e3 => ?_))
    rw [e3]
    refine zT_b1 (zq_fillc S5 (n := n) (m := m) (by omega) ea c5) (fun S9 h9 => hT _ ?_)
    obtain ⟨f9, r9, x9⟩ := h9
    have f7 : zF (fun k j => (k = 1 ∧ n ≤ j) ∨ (k = 0 ∧ j = 6) ∨ (k = 40 ∧ (j = 0 ∨ j = 1))) (fun k j => k = 59 ∨ (k = 41 ∧ n ≤ j)) S S9 := by
      refine ((f4.mo (fun k j z => by omega) (fun _ _ z => absurd z (fun z => z))).tr ?_).tr (f9.mo (fun k j z => by omega) (fun k j z => by omega))
      rw [q2]; exact f5.mo (fun k j z => by omega) (fun k j z => by omega)
    refine ⟨?_, fun _ => ?_, ⟨n + m, by omega, ?_, r9, fun t ht => ?_⟩, i2.fr f7 (fun k j z => by omega), i3.fr f7 (fun k j z => by omega), i4.fr f7 (fun k j z => by omega), i5.fr f7 (fun k j z => by omega) (fun k j z => by omega), i6.fr f7 (fun k j z => by omega) (fun k j z => by omega)⟩
    · show S9.1 40 0 = 0
      rw [f9.1 40 _ (by omega), q2]; exact zS5_0 _ _
    · show S9.2 59 0 = Int32.toInt64 (S9.1 40 1)
      rw [r9, f9.2 59 _ (by omega), q2]; exact zS5_r _ _
    · show S9.1 0 6 = _
      rw [f9.1 0 _ (by omega), q2, f5.1 0 _ (by omega)]; exact r4
    · have x7 : S9.1 1 t = S4.1 1 t := by rw [f9.1 1 _ (by omega), q2, f5.1 1 _ (by omega)]
      show (S9.2 41 t).toInt = (S9.1 1 t).toInt ∧ _
      rw [x7]
      by_cases ct : n ≤ t
      · have y1 := x9 (t - n) (by omega)
        have y2 := x4 (t - n) (by omega)
        rw [show n + (t - n) = t by omega] at y1 y2
        rw [y1, y2]
        refine ⟨rfl, ?_, ?_⟩
        · rw [zz_bm]; split <;> omega
        · rw [zz_bm]; split <;> omega
      · rw [f7.2 41 t (by omega), f4.1 1 t (by omega)]
        exact s3 t (by omega)
  · show zQ (zR 2) (zf_X11_fill (zx_o 2 0 S) a1 a2 a3)
    rw [zx_2]
    refine zQ.of (fun T hT => ?_)
    unfold zf_X11_fill
    rw [s2]
    refine zT_iff c (zT_ift c1 (zT_iff c2 ?_))
    unfold zj_X11_fill_33
    refine zT_b2 (zr_2 S) (fun v1 S2 h2 => ?_)
    dsimp only at h2
    obtain ⟨q1, q2⟩ := h2
    subst q1; subst q2
    exact zT_iff (by decide) (hT _ (zR_no (by decide) h 0))
  · show zQ (zR 1) (zf_X11_fill (zx_o 1 0 S) a1 a2 a3)
    rw [zx_1]; unfold zf_X11_fill; rw [if_neg c, if_neg c1]; exact no
/-! feed -/
theorem za_255 (x : Int64) : (Int64.toInt32 x) &&& (255 : Int32) = Int64.toInt32 (x &&& (255 : Int64)) := by
  apply Int32.toBitVec_inj.mp
  show BitVec.signExtend 32 x.toBitVec &&& (255 : Int32).toBitVec = BitVec.signExtend 32 (x.toBitVec &&& (255 : Int64).toBitVec)
  rw [BitVec.signExtend_eq_setWidth_of_le _ (by omega), BitVec.signExtend_eq_setWidth_of_le _ (by omega), BitVec.setWidth_and]
  rfl
theorem zp_feedc (S : zs_T) {n m : Nat} (hnm : n + m ≤ 33) (hm : m ≤ 8) {a1 : Int64} {a2 : Int32} (h2 : a2.toInt = m) (hc : S.1 0 7 = nI n) :
    zQ (fun S1 => zF (fun k j => k = 2 ∧ n ≤ j ∧ j < n + m) zF_0 S S1 ∧ ∀ t, t < m → (S1.1 2 (n + t)).toInt = (Int64.toInt32 ((a1 >>> (Int32.toInt64 ((8 : Int32) * nI t) &&& 63)) &&& (255 : Int64))).toInt) (zl_2 (zb_X10_feed_44 a1 a2) 600 S (0 : Int32)) := by
  have en : (nI n).toInt = n := za_nI (by omega)
  refine zQ_mapI _ m 2 (fun t => n + t) (fun j => n ≤ j ∧ j < n + m) _ S (fun s t _ _ h => by omega) (fun t h => by omega) (by omega) ?_ ?_
  · intro i Sc hi hF hU hW rec T hT
    have ei : (nI i).toInt = i := za_nI (by omega)
    have c0 : Sc.1 0 7 = nI n := by rw [hF.1 0 _ (by omega)]; exact hc
    have e1 : (nI n + nI i).toInt = ((n + i : Nat) : Int) := by have := za_add en ei (by omega) (by omega); omega
    unfold zb_X10_feed_44
    rw [c0]
    refine zT_iff (by rw [za_le, h2, ei]; omega) (zT_gi e1 (by omega) ?_)
    rw [za_pos e1]
    refine zT_lt (fun S1 e2 => zT_lt (fun v2 e3 => ?_))
    rw [e3, zc_1, e2]
    exact hT _ (by rw [za_255])
  · intro S1 hF rec T hT
    have ei : (nI m).toInt = m := za_nI (by omega)
    unfold zb_X10_feed_44
    exact zT_ift (by rw [za_le, h2, ei]; omega) hT
theorem zq_feedc (S : zs_T) {n m : Nat} (hnm : n + m ≤ 33) (hm : m ≤ 8) {a1 : Int64} {a2 : Int32} (h2 : a2.toInt = m) (hc : S.1 40 3 = nI n) :
    zQ (fun S1 => zF (fun k j => (k = 40 ∧ j = 3) ∨ (k = 42 ∧ n ≤ j ∧ j < n + m)) zF_0 S S1 ∧ S1.1 40 3 = nI (n + m) ∧ ∀ t, t < m → (S1.1 42 (n + t)).toInt = (Int64.toInt32 ((a1 >>> (Int32.toInt64 ((8 : Int32) * nI t) &&& 63)) &&& (255 : Int64))).toInt) (zl_2 (zb_X11_feed_42 a1 a2) 600 S (0 : Int32)) := by
  refine zQ_for _ m (fun i S1 => zF (fun k j => (k = 40 ∧ j = 3) ∨ (k = 42 ∧ n ≤ j ∧ j < n + m)) zF_0 S S1 ∧ S1.1 40 3 = nI (n + i) ∧ ∀ t, t < i → (S1.1 42 (n + t)).toInt = (Int64.toInt32 ((a1 >>> (Int32.toInt64 ((8 : Int32) * nI t) &&& 63)) &&& (255 : Int64))).toInt) _ ?_ ?_ 600 0 S (by omega) (by omega) ⟨zF.rf S, hc, fun t ht => absurd ht (Nat.not_lt_zero t)⟩
  · intro i Sc hi hP rec T hT
    obtain ⟨hF, q1, q3⟩ := hP
    have ei : (nI i).toInt = i := za_nI (by omega)
    have en : (nI (n + i)).toInt = ((n + i : Nat) : Int) := za_nI (by omega)
    unfold zb_X11_feed_42
    rw [q1]
    refine zT_iff (by rw [za_le, h2, ei]; omega) (zT_gi en (by omega) ?_)
    rw [za_pos en]
    refine zT_lt (fun S3 e3 => zT_lt (fun S4 e4 => zT_lt (fun v5 e5 => ?_)))
    have c3 : S3.1 40 3 = nI (n + i) := by rw [e3, zs_in _ _ (by omega)]; exact q1
    rw [e5, zc_1]
    refine hT _ ⟨?_, ?_, fun t ht => ?_⟩
    · rw [e4, e3]; exact (hF.wi _ (by omega)).wi _ (by omega)
    · rw [e4, zs_ii, c3, zc_1]; rfl
    · rw [e4, zs_in _ _ (by omega), e3]
      by_cases ct : t = i
      · subst ct; rw [zs_ii]
      · rw [zs_in _ _ (by omega)]; exact q3 t (by omega)
  · intro Sc hP rec T hT
    have ei : (nI m).toInt = m := za_nI (by omega)
    unfold zb_X11_feed_42
    exact zT_ift (by rw [za_le, h2, ei]; omega) (hT _ hP)
theorem zp_feed (S : zs_T) (h : zI S) (a1 : Int64) (a2 : Int32) : zQ (zO (fun S => zf_X11_feed S a1 a2)) (zf_X10_feed S a1 a2) := by
  obtain ⟨i1, ⟨n, hn, s1, s2, s3⟩, i3, i4, i5, i6⟩ := id h
  have en : (nI n).toInt = n := za_nI (by omega)
  have e0 : (0 : Int32).toInt = 0 := by decide
  have e8 : (8 : Int32).toInt = 8 := by decide
  have e33 : (33 : Int32).toInt = 33 := by decide
  have no : zQ (zR 1) (zj_X11_feed_11 S a1 a2) := by
    refine zQ.of (fun T hT => ?_)
    unfold zj_X11_feed_11 zj_X11_feed_31
    refine zT_b2 (zr_1 S) (fun v1 S2 h2 => ?_)
    dsimp only at h2
    obtain ⟨q1, q2⟩ := h2
    subst q1; subst q2
    exact zT_iff (by decide) (hT _ (zR_no (by decide) h 0))
  refine zQ.of (fun T hT => ?_)
  unfold zf_X10_feed
  rw [s1]
  refine zT_if (fun c => hT _ ⟨Or.inr (Or.inl rfl), ?_⟩) (fun c => zT_if (fun c1 => zT_if (fun c2 => ?_) (fun c2 => hT _ ⟨Or.inr (Or.inr rfl), ?_⟩)) (fun c1 => hT _ ⟨Or.inr (Or.inl rfl), ?_⟩))
  · show zQ (zR 1) (zf_X11_feed (zx_o 1 0 S) a1 a2)
    rw [zx_1]; unfold zf_X11_feed; rw [if_pos c]; exact no
  · have c' := c
    have c1' := c1
    have c2' := c2
    rw [za_lt, e0] at c
    rw [za_le, e8] at c1
    have ea : a2.toInt = ((a2.toInt.toNat : Nat) : Int) := by omega
    generalize a2.toInt.toNat = m at ea
    have esum := za_add en ea (by omega) (by omega)
    rw [za_le, esum, e33] at c2
    refine zT_b1 (zp_feedc S (n := n) (m := m) (by omega) (by omega) ea s1) (fun S3 h3 => zT_lt (fun S4 e4 => ?_))
    obtain ⟨f3, x3⟩ := h3
    have c3 : S3.1 0 7 = nI n := by rw [f3.1 0 _ (by omega)]; exact s1
    have r4 : S4.1 0 7 = nI (n + m) := by
      rw [e4, zs_ii, c3]
      exact za_of (by rw [esum]; omega)
    have f4 : zF (fun k j => (k = 2 ∧ n ≤ j ∧ j < n + m) ∨ (k = 0 ∧ j = 7)) zF_0 S S4 := by rw [e4]; exact (f3.mo (fun k j z => Or.inl z) (fun _ _ z => z)).wi _ (Or.inr ⟨rfl, rfl⟩)
    have x4 : ∀ t, t < m → (S4.1 2 (n + t)).toInt = (Int64.toInt32 ((a1 >>> (Int32.toInt64 ((8 : Int32) * nI t) &&& 63)) &&& (255 : Int64))).toInt := fun t ht => by rw [e4, zs_in _ _ (by omega)]; exact x3 t ht
    refine hT _ ⟨Or.inl rfl, ?_⟩
    show zQ (zR 0) (zf_X11_feed (zx_o 0 (S4.1 0 7) S4) a1 a2)
    rw [zx_0, r4]
    refine zQ.of (fun T hT => ?_)
    have f5 := zS5_f S4 (nI (n + m))
    have c43 : (zs_wl S4 59 0 (Int32.toInt64 (nI (n + m)))).1 40 3 = nI n := (f4.1 40 3 (by omega)).trans s2
    unfold zf_X11_feed
    rw [c43]
    refine zT_iff c' (zT_ift c1' (zT_ift c2' ?_))
    unfold zj_X11_feed_31
    refine zT_b2 (zr_0 _) (fun v1 S5 h2 => ?_)
    dsimp only at h2
    obtain ⟨q1, q2⟩ := h2
    subst q1
    have q2 : S5 = zS5 S4 (nI (n + m)) := q2
    have c5 : S5.1 40 3 = nI n := by rw [q2, f5.1 40 _ (by omega)]; exact c43
    refine zT_ift rfl (zT_b1 (zq_feedc S5 (n := n) (m := m) (by omega) (by omega) ea c5) (fun S9 h9 => hT _ ?_))
    obtain ⟨f9, r9, x9⟩ := h9
    have f7 : zF (fun k j => (k = 2 ∧ n ≤ j) ∨ (k = 42 ∧ n ≤ j) ∨ (k = 0 ∧ j = 7) ∨ (k = 40 ∧ (j = 0 ∨ j = 3))) (fun k j => k = 59) S S9 := by
      refine ((f4.mo (fun k j z => by omega) (fun _ _ z => absurd z (fun z => z))).tr ?_).tr (f9.mo (fun k j z => by omega) (fun _ _ z => absurd z (fun z => z)))
      rw [q2]; exact f5.mo (fun k j z => by omega) (fun k j z => by omega)
    refine ⟨?_, fun _ => ?_, i1.fr f7 (fun k j z => by omega) (fun k j z => by omega), ⟨n + m, by omega, ?_, r9, fun t ht => ?_⟩, i3.fr f7 (fun k j z => by omega), i4.fr f7 (fun k j z => by omega), i5.fr f7 (fun k j z => by omega) (fun k j z => by omega), i6.fr f7 (fun k j z => by omega) (fun k j z => by omega)⟩
    · show S9.1 40 0 = 0
      rw [f9.1 40 _ (by omega), q2]; exact zS5_0 _ _
    · show S9.2 59 0 = Int32.toInt64 (S9.1 40 3)
      rw [r9, f9.2 59 _ (fun z => z), q2]; exact zS5_r _ _
    · show S9.1 0 7 = _
      rw [f9.1 0 _ (by omega), q2, f5.1 0 _ (by omega)]; exact r4
    · have x7 : S9.1 2 t = S4.1 2 t := by rw [f9.1 2 _ (by omega), q2, f5.1 2 _ (by omega)]
      show S9.1 42 t = S9.1 2 t
      rw [x7]
      by_cases ct : n ≤ t
      · have y1 := x9 (t - n) (by omega)
        have y2 := x4 (t - n) (by omega)
        rw [show n + (t - n) = t by omega] at y1 y2
        exact Int32.toInt_inj.mp (y1.trans y2.symm)
      · rw [f7.1 42 t (by omega), f4.1 2 t (by omega)]
        exact s3 t (by omega)
  · show zQ (zR 2) (zf_X11_feed (zx_o 2 0 S) a1 a2)
    rw [zx_2]
    refine zQ.of (fun T hT => ?_)
    unfold zf_X11_feed
    rw [s2]
    refine zT_iff c (zT_ift c1 (zT_iff c2 ?_))
    unfold zj_X11_feed_31
    refine zT_b2 (zr_2 S) (fun v1 S2 h2 => ?_)
    dsimp only at h2
    obtain ⟨q1, q2⟩ := h2
    subst q1; subst q2
    exact zT_iff (by decide) (hT _ (zR_no (by decide) h 0))
  · show zQ (zR 1) (zf_X11_feed (zx_o 1 0 S) a1 a2)
    rw [zx_1]; unfold zf_X11_feed; rw [if_neg c, if_neg c1]; exact no
