/-! a frame, decoded: the past -/
def zz_db (P : Nat → Int) (b0 : Nat) : Nat → Nat
  | 0 => b0
  | p + 1 => if 40 ≤ P (8 + 17 * p) ∧ P (8 + 17 * p) ≤ 120 then (P (8 + 17 * p)).toNat else zz_db P b0 p
theorem zz_db_b {P : Nat → Int} {b0 : Nat} (h : 40 ≤ b0 ∧ b0 ≤ 120) : ∀ p, 40 ≤ zz_db P b0 p ∧ zz_db P b0 p ≤ 120 := by
  intro p
  induction p with
  | zero => exact h
  | succ p ih => simp only [zz_db]; split <;> omega
def zz_dr (P : Nat → Int) (p t : Nat) : Int := zz_row (P (10 + 17 * p)).toNat (P (11 + 17 * p)).toNat (fun i => P (12 + 17 * p + i)) t
def zz_dc (P : Nat → Int) (b0 : Nat) (c0 : Nat → Int) : Nat → Nat → Int
  | 0 => c0
  | p + 1 => fun j => if 120 + 40 * p ≤ j ∧ j < 160 + 40 * p then zz_cut (zz_dr P p (j - (120 + 40 * p)) + zz_wv (P (9 + 17 * p)).toNat (zz_dc P b0 c0 p) (120 + 40 * p) (zz_db P b0 (p + 1)) (j - (120 + 40 * p))) else zz_dc P b0 c0 p j
theorem zz_dc_b {P : Nat → Int} {b0 : Nat} {c0 : Nat → Int} (h0 : ∀ t, t < 120 → -32768 ≤ c0 t ∧ c0 t ≤ 32767) : ∀ p t, t < 120 + 40 * p → -32768 ≤ zz_dc P b0 c0 p t ∧ zz_dc P b0 c0 p t ≤ 32767 := by
  intro p
  induction p with
  | zero => intro t ht; exact h0 t (by omega)
  | succ p ih =>
    intro t ht
    simp only [zz_dc]
    by_cases c : 120 + 40 * p ≤ t ∧ t < 160 + 40 * p
    · rw [if_pos c]; exact zz_cut_b _
    · rw [if_neg c]; exact ih t (by omega)
/-- what the bits allow -/
def zz_pok (P : Nat → Int) : Prop := (∀ j, j < 8 → 0 ≤ P j ∧ P j ≤ 63) ∧ ∀ p, p < 4 → (0 ≤ P (8 + 17 * p) ∧ P (8 + 17 * p) ≤ 127) ∧ (0 ≤ P (9 + 17 * p) ∧ P (9 + 17 * p) ≤ 3) ∧ (0 ≤ P (10 + 17 * p) ∧ P (10 + 17 * p) ≤ 3) ∧ (0 ≤ P (11 + 17 * p) ∧ P (11 + 17 * p) ≤ 63) ∧ ∀ i, i < 13 → 0 ≤ P (12 + 17 * p + i) ∧ P (12 + 17 * p + i) ≤ 7
theorem zp_rebuild (S : zs_T) {a1 : Int32} {p : Nat} (h1 : a1.toInt = p) (hp : p < 4) {P c : Nat → Int} {b : Nat} (hP : zz_pok P) (hb : 40 ≤ b ∧ b ≤ 120) (eP : ∀ j, j < 76 → (S.1 3 j).toInt = P j) (eb : (S.1 29 4).toInt = (b : Int)) (hc : ∀ t, t < 120 + 40 * p → (S.1 36 t).toInt = c t) (nc : ∀ t, t < 120 + 40 * p → -32768 ≤ c t ∧ c t ≤ 32767) {b' : Nat} (hb' : b' = if 40 ≤ P (8 + 17 * p) ∧ P (8 + 17 * p) ≤ 120 then (P (8 + 17 * p)).toNat else b) :
    zQ (fun S1 => zF (fun k j => k = 37 ∨ k = 38 ∨ k = 39 ∨ (k = 29 ∧ j = 4) ∨ (k = 36 ∧ 120 + 40 * p ≤ j ∧ j < 160 + 40 * p)) zF_0 S S1 ∧ (S1.1 29 4).toInt = (b' : Int) ∧ ∀ t, t < 40 → (S1.1 36 (120 + 40 * p + t)).toInt = zz_cut (zz_dr P p t + zz_wv (P (9 + 17 * p)).toNat c (120 + 40 * p) b' t)) (zf_X0_rebuildPart S a1) := by
  obtain ⟨k0, k1, k2, k3, k4⟩ := hP.2 p hp
  have e17 := za_mul (show (17 : Int32).toInt = 17 by decide) h1 (by omega) (by omega)
  have hbb : 40 ≤ b' ∧ b' ≤ 120 := by rw [hb']; split <;> omega
  refine zQ.of (fun T hT => ?_)
  have k33 : ∀ Sc v, zF (fun k j => k = 29 ∧ j = 4) zF_0 S Sc → (Sc.1 29 4).toInt = (b' : Int) → v.toInt = ((8 + 17 * p : Nat) : Int) → T (zj_X0_rebuildPart_33 Sc a1 v) := by
    intro Sc v hF hb4 w1
    have w2 : (v + (1 : Int32)).toInt = ((9 + 17 * p : Nat) : Int) := by have := za_add w1 (show (1 : Int32).toInt = 1 by decide) (by omega) (by omega); omega
    have eP2 : ∀ j, j < 76 → (Sc.1 3 j).toInt = P j := fun j hj => by rw [hF.1 3 _ (by omega)]; exact eP j hj
    unfold zj_X0_rebuildPart_33
    refine zT_b1 (zp_makeAgain 38 39 (by decide) (by decide) (by decide) Sc w1 (by omega) (g := (P (10 + 17 * p)).toNat) (by rw [show 8 + 17 * p + 2 = 10 + 17 * p by omega, eP2 _ (by omega)]; omega) (by omega) (h := (P (11 + 17 * p)).toNat) (by rw [show 8 + 17 * p + 3 = 11 + 17 * p by omega, eP2 _ (by omega)]; omega) (by omega) (p := fun i => P (12 + 17 * p + i)) (fun i hi => by rw [show 8 + 17 * p + 4 + i = 12 + 17 * p + i by omega]; exact eP2 _ (by omega)) (fun i hi => by have := k4 i hi; omega)) (fun S3 h3 => ?_)
    obtain ⟨f3, y3⟩ := h3
    refine zT_gi w2 (by omega) ?_
    rw [za_pos w2]
    refine zT_b1 (zp_look 36 37 (by decide) S3 h1 hp (back := b') (gain := (P (9 + 17 * p)).toNat) (by rw [f3.1 29 _ (by omega)]; exact hb4) hbb.1 hbb.2 (by rw [f3.1 3 _ (by omega), eP2 _ (by omega)]; omega) (by omega) (c := c) (fun t ht => by rw [f3.1 36 _ (by omega), hF.1 36 _ (by omega)]; exact hc t ht) nc) (fun S4 h4 => ?_)
    obtain ⟨f4, y4⟩ := h4
    refine zT_b1 (zp_add 39 37 36 (by decide) (by decide) S4 h1 hp (r := zz_dr P p) (fun t ht => by rw [f4.1 39 _ (by omega)]; exact y3 t ht) (fun t _ => zz_row_b (by omega) _ t) y4 (fun t _ => zz_M_b _ _)) (fun S5 h5 => hT _ ⟨?_, ?_, h5.2⟩)
    · exact (((hF.mo (fun k j h => by omega) (fun _ _ h => h)).tr (f3.mo (fun k j h => by omega) (fun _ _ h => h))).tr (f4.mo (fun k j h => by omega) (fun _ _ h => h))).tr (h5.1.mo (fun k j h => by omega) (fun _ _ h => h))
    · rw [h5.1.1 29 _ (by omega), f4.1 29 _ (by omega), f3.1 29 _ (by omega)]; exact hb4
  unfold zf_X0_rebuildPart
  refine zT_lt (fun v1 e1 => ?_)
  have w1 : v1.toInt = ((8 + 17 * p : Nat) : Int) := by rw [e1]; have := za_add (show (8 : Int32).toInt = 8 by decide) e17 (by omega) (by omega); omega
  refine zT_gi w1 (by omega) ?_
  rw [za_pos w1]
  have eP8 := eP (8 + 17 * p) (by omega)
  refine zT_lt (fun v2 e2 => zT_if (fun c1 => k33 S v1 (zF.rf S) ?_ w1) (fun c1 => zT_if (fun c2 => k33 S v1 (zF.rf S) ?_ w1) (fun c2 => zT_lt (fun S6 e6 => k33 S6 v1 ?_ ?_ w1))))
  · rw [za_lt, e2, eP8, show (40 : Int32).toInt = 40 by decide] at c1
    rw [hb', if_neg (by omega)]; exact eb
  · rw [za_lt, e2, eP8, show (120 : Int32).toInt = 120 by decide] at c2
    rw [hb', if_neg (by omega)]; exact eb
  · rw [e6]; exact (zF.rf S).wi _ ⟨rfl, rfl⟩
  · rw [za_lt, e2, eP8, show (40 : Int32).toInt = 40 by decide] at c1
    rw [za_lt, e2, eP8, show (120 : Int32).toInt = 120 by decide] at c2
    rw [e6, zs_ii, hb', if_pos (by omega), e2, eP8]; omega
theorem zq_dec187 (S : zs_T) {f3 f5 : Int32} {p back gain : Nat} (h1 : f3.toInt = p) (hp : p < 4) (h5 : f5.toInt = ((400 + 40 * p : Nat) : Int)) (hb1 : 40 ≤ back) (hb2 : back ≤ 120) (hg : gain < 4) (hbk : (S.1 40 16).toInt = (back : Int)) (hgn : (S.1 43 (9 + 17 * p)).toInt = (gain : Int)) {c r : Nat → Int} (hc : ∀ t, t < 120 + 40 * p → (S.2 48 (280 + t)).toInt = c t) (nc : ∀ t, t < 120 + 40 * p → -32768 ≤ c t ∧ c t ≤ 32767) (hr : ∀ t, t < 40 → (S.2 58 t).toInt = r t) (nr : ∀ t, t < 40 → -32768 ≤ r t ∧ r t ≤ 32767) :
    zQ (fun S1 => zF zF_0 (fun k j => k = 48 ∧ 400 + 40 * p ≤ j ∧ j < 440 + 40 * p) S S1 ∧ ∀ t, t < 40 → (S1.2 48 (400 + 40 * p + t)).toInt = zz_cut (r t + zz_wv gain c (120 + 40 * p) back t)) (zl_2 (zb_X11_decode_187 f3 f5) 600 S (0 : Int32)) := by
  have e17 := za_mul (show (17 : Int32).toInt = 17 by decide) h1 (by omega) (by omega)
  have e9 : ((9 : Int32) + (17 : Int32) * f3).toInt = ((9 + 17 * p : Nat) : Int) := by have := za_add (show (9 : Int32).toInt = 9 by decide) e17 (by omega) (by omega); omega
  have hG := zz_G_b gain hg
  refine zQ_mapL _ 40 48 (fun t => 400 + 40 * p + t) (fun j => 400 + 40 * p ≤ j ∧ j < 440 + 40 * p) (fun t => zz_cut (r t + zz_wv gain c (120 + 40 * p) back t)) S (fun s t _ _ h => by omega) (fun t h => by omega) (by omega) ?_ ?_
  · intro i Sc hi hF hU hW rec T hT
    have ei : (nI i).toInt = i := za_nI (by omega)
    have q16 : (Sc.1 40 16).toInt = (back : Int) := by rw [hF.1 40 _ (fun z => z)]; exact hbk
    have q9 : Sc.1 43 (9 + 17 * p) = nI gain := za_of (by rw [hF.1 43 _ (fun z => z)]; exact hgn)
    have ef := za_add h5 ei (by omega) (by omega)
    have ef1 : (f5 + nI i).toInt = ((400 + 40 * p + i : Nat) : Int) := by omega
    have eat : (f5 + nI i - Sc.1 40 16).toInt = ((280 + (120 + 40 * p + i - back) : Nat) : Int) := by have := za_sub ef q16 (by omega) (by omega); omega
    have nci := nc (120 + 40 * p + i - back) (by omega)
    have nri := nr i hi
    have b := zz_M_b (zz_G gain) (c (120 + 40 * p + i - back))
    unfold zb_X11_decode_187
    refine zT_iff (by rw [za_le, ei, show (40 : Int32).toInt = 40 by decide]; omega) (zT_gi ei hi (zT_gi e9 (by omega) ?_))
    rw [za_pos e9, q9, za_pos ei]
    refine zT_lt (fun v16 e16 => zT_gi eat (by omega) ?_)
    rw [za_pos eat]
    refine zT_lt (fun v17 e17 => zT_lt (fun v18 e18 => zT_gi ef1 (by omega) ?_))
    rw [za_pos ef1]
    refine zT_lt (fun S19 e19 => zT_lt (fun v20 e20 => ?_))
    have y17 : v17.toInt = zz_wv gain c (120 + 40 * p) back i := by
      rw [e17, e16]
      exact zq_rounded (zb_i2l (zq_tG gain hg)) (by rw [hF.2 48 _ (by omega)]; exact hc _ (by omega)) (by omega) (by omega) (by omega) (by omega)
    rw [e20, zc_1, e19]
    refine hT _ ?_
    rw [e18]
    exact zq_cut (zb_add (by rw [hF.2 58 _ (by omega)]; exact hr i hi) y17 (by unfold zz_wv; omega) (by unfold zz_wv; omega))
  · intro S1 hF rec T hT
    unfold zb_X11_decode_187
    exact zT_ift (by decide) hT
theorem zq_rebuild (S : zs_T) {a1 : Int32} {p : Nat} (h1 : a1.toInt = p) (hp : p < 4) {P c : Nat → Int} {b : Nat} (hP : zz_pok P) (hb : 40 ≤ b ∧ b ≤ 120) (eP : ∀ j, j < 76 → (S.1 43 j).toInt = P j) (eb : (S.1 40 16).toInt = (b : Int)) (hc : ∀ t, t < 120 + 40 * p → (S.2 48 (280 + t)).toInt = c t) (nc : ∀ t, t < 120 + 40 * p → -32768 ≤ c t ∧ c t ≤ 32767) {b' : Nat} (hb' : b' = if 40 ≤ P (8 + 17 * p) ∧ P (8 + 17 * p) ≤ 120 then (P (8 + 17 * p)).toNat else b) (rec : zs_T → Int32 → Option zs_T) (T : Option zs_T → Prop)
    (hT : ∀ S1, zF (fun k j => k = 40 ∧ (j = 16 ∨ j = 28 ∨ j = 29)) (fun k j => k = 58 ∨ (k = 48 ∧ 400 + 40 * p ≤ j ∧ j < 440 + 40 * p)) S S1 → (S1.1 40 16).toInt = (b' : Int) → (∀ t, t < 40 → (S1.2 48 (400 + 40 * p + t)).toInt = zz_cut (zz_dr P p t + zz_wv (P (9 + 17 * p)).toNat c (120 + 40 * p) b' t)) → T (rec S1 (a1 + (1 : Int32)))) : T (zb_X11_decode_123 rec S a1) := by
  obtain ⟨k0, k1, k2, k3, k4⟩ := hP.2 p hp
  have e17 := za_mul (show (17 : Int32).toInt = 17 by decide) h1 (by omega) (by omega)
  have hbb : 40 ≤ b' ∧ b' ≤ 120 := by rw [hb']; split <;> omega
  have k166 : ∀ z : Int32, z.toInt = (b' : Int) → T (zj_X11_decode_166 rec S a1 z) := by
    intro z hz
    unfold zj_X11_decode_166
    refine zT_lt (fun S13 e13 => ?_)
    have eP2 : ∀ j, j < 76 → (S13.1 43 j).toInt = P j := fun j hj => by rw [e13, zs_in _ _ (by omega)]; exact eP j hj
    refine zT_b1 (zq_makes S13 h1 hp (g := (P (10 + 17 * p)).toNat) (h := (P (11 + 17 * p)).toNat) (by rw [eP2 _ (by omega)]; omega) (by omega) (by rw [eP2 _ (by omega)]; omega) (by omega) (p := fun i => P (12 + 17 * p + i)) (fun i hi => eP2 _ (by omega)) (fun i hi => by have := k4 i hi; omega)) (fun S14 h14 => zT_lt (fun v15 e15 => ?_))
    obtain ⟨f14, y14⟩ := h14
    have w15 : v15.toInt = ((400 + 40 * p : Nat) : Int) := by rw [e15]; have := za_add (show (400 : Int32).toInt = 400 by decide) (za_mul (show (40 : Int32).toInt = 40 by decide) h1 (by omega) (by omega)) (by omega) (by omega); omega
    refine zT_b1 (zq_dec187 S14 h1 hp w15 hbb.1 hbb.2 (gain := (P (9 + 17 * p)).toNat) (by omega) (by rw [f14.1 40 _ (by omega), e13, zs_ii]; exact hz) (by rw [f14.1 43 _ (by omega), eP2 _ (by omega)]; omega) (c := c) (r := zz_dr P p) (fun t ht => by rw [f14.2 48 _ (by omega), e13]; exact hc t ht) nc y14 (fun t _ => zz_row_b (by omega) _ t)) (fun S21 h21 => zT_lt (fun v22 e22 => ?_))
    rw [e22]
    refine hT _ ⟨fun k j hk => ?_, fun k j hk => ?_⟩ ?_ h21.2
    · rw [h21.1.1 k j (fun z => z), f14.1 k j (by omega), e13, zs_in _ _ (by omega)]
    · rw [h21.1.2 k j (by omega), f14.2 k j (by omega), e13]; rfl
    · rw [h21.1.1 40 _ (fun z => z), f14.1 40 _ (by omega), e13, zs_ii]; exact hz
  have e8 : ((8 : Int32) + (17 : Int32) * a1).toInt = ((8 + 17 * p : Nat) : Int) := by have := za_add (show (8 : Int32).toInt = 8 by decide) e17 (by omega) (by omega); omega
  have eP8 := eP (8 + 17 * p) (by omega)
  unfold zb_X11_decode_123 zj_X11_decode_162
  refine zT_iff (by rw [za_le, h1, show (4 : Int32).toInt = 4 by decide]; omega) (zT_gi e8 (by omega) ?_)
  rw [za_pos e8]
  refine zT_lt (fun v12 e12 => zT_if (fun c1 => k166 _ ?_) (fun c1 => zT_if (fun c2 => k166 _ ?_) (fun c2 => k166 _ ?_)))
  · rw [za_le, e12, eP8, show (39 : Int32).toInt = 39 by decide] at c1
    rw [hb', if_neg (by omega)]; exact eb
  · rw [za_le, e12, eP8, show (121 : Int32).toInt = 121 by decide] at c2
    rw [hb', if_neg (by omega)]; exact eb
  · rw [za_le, e12, eP8, show (39 : Int32).toInt = 39 by decide] at c1
    rw [za_le, e12, eP8, show (121 : Int32).toInt = 121 by decide] at c2
    rw [hb', if_pos (by omega), e12, eP8]; omega
theorem zp_dparts (S : zs_T) {P c0 : Nat → Int} {b0 : Nat} (hP : zz_pok P) (hb : 40 ≤ b0 ∧ b0 ≤ 120) (eP : ∀ j, j < 76 → (S.1 3 j).toInt = P j) (eb : (S.1 29 4).toInt = (b0 : Int)) (hc : ∀ t, t < 120 → (S.1 36 t).toInt = c0 t) (nc : ∀ t, t < 120 → -32768 ≤ c0 t ∧ c0 t ≤ 32767) :
    zQ (fun S1 => zF (fun k j => k = 36 ∨ k = 37 ∨ k = 38 ∨ k = 39 ∨ (k = 29 ∧ j = 4)) zF_0 S S1 ∧ (S1.1 29 4).toInt = ((zz_db P b0 4 : Nat) : Int) ∧ ∀ t, t < 280 → (S1.1 36 t).toInt = zz_dc P b0 c0 4 t) (zl_2 zb_X0_speak_2 600 S (0 : Int32)) := by
  refine zQ_for _ 4 (fun n S1 => zF (fun k j => k = 36 ∨ k = 37 ∨ k = 38 ∨ k = 39 ∨ (k = 29 ∧ j = 4)) zF_0 S S1 ∧ (S1.1 29 4).toInt = ((zz_db P b0 n : Nat) : Int) ∧ ∀ t, t < 120 + 40 * n → (S1.1 36 t).toInt = zz_dc P b0 c0 n t) _ ?_ ?_ 600 0 S (by omega) (by omega) ⟨zF.rf S, eb, fun t ht => hc t (by omega)⟩
  · intro n Sc hn hQ rec T hT
    obtain ⟨hF, q1, q2⟩ := hQ
    have en : (nI n).toInt = n := za_nI (by omega)
    unfold zb_X0_speak_2
    refine zT_iff (by rw [za_le, en, show (4 : Int32).toInt = 4 by decide]; omega) (zT_b1 (zp_rebuild Sc en hn hP (zz_db_b hb n) (fun j hj => by rw [hF.1 3 _ (by omega)]; exact eP j hj) q1 q2 (zz_dc_b nc n) (b' := zz_db P b0 (n + 1)) rfl) (fun S5 h5 => zT_lt (fun v6 e6 => ?_)))
    obtain ⟨f5, a5, b5⟩ := h5
    rw [e6, zc_1]
    refine hT _ ⟨hF.tr (f5.mo (fun k j h => by omega) (fun _ _ h => h)), a5, fun t ht => ?_⟩
    simp only [zz_dc]
    by_cases c : 120 + 40 * n ≤ t ∧ t < 160 + 40 * n
    · rw [if_pos c]
      have := b5 (t - (120 + 40 * n)) (by omega)
      rw [show 120 + 40 * n + (t - (120 + 40 * n)) = t by omega] at this
      exact this
    · rw [if_neg c, f5.1 36 _ (by omega)]; exact q2 t (by omega)
  · intro Sc hQ rec T hT
    unfold zb_X0_speak_2
    exact zT_ift (by decide) (hT _ hQ)
theorem zq_dparts (S : zs_T) {P c0 : Nat → Int} {b0 : Nat} (hP : zz_pok P) (hb : 40 ≤ b0 ∧ b0 ≤ 120) (eP : ∀ j, j < 76 → (S.1 43 j).toInt = P j) (eb : (S.1 40 16).toInt = (b0 : Int)) (hc : ∀ t, t < 120 → (S.2 48 (280 + t)).toInt = c0 t) (nc : ∀ t, t < 120 → -32768 ≤ c0 t ∧ c0 t ≤ 32767) :
    zQ (fun S1 => zF (fun k j => k = 40 ∧ (j = 16 ∨ j = 28 ∨ j = 29)) (fun k j => k = 58 ∨ (k = 48 ∧ 400 ≤ j ∧ j < 560)) S S1 ∧ (S1.1 40 16).toInt = ((zz_db P b0 4 : Nat) : Int) ∧ ∀ t, t < 280 → (S1.2 48 (280 + t)).toInt = zz_dc P b0 c0 4 t) (zl_2 zb_X11_decode_123 600 S (0 : Int32)) := by
  refine zQ_for _ 4 (fun n S1 => zF (fun k j => k = 40 ∧ (j = 16 ∨ j = 28 ∨ j = 29)) (fun k j => k = 58 ∨ (k = 48 ∧ 400 ≤ j ∧ j < 560)) S S1 ∧ (S1.1 40 16).toInt = ((zz_db P b0 n : Nat) : Int) ∧ ∀ t, t < 120 + 40 * n → (S1.2 48 (280 + t)).toInt = zz_dc P b0 c0 n t) _ ?_ ?_ 600 0 S (by omega) (by omega) ⟨zF.rf S, eb, fun t ht => hc t (by omega)⟩
  · intro n Sc hn hQ rec T hT
    obtain ⟨hF, q1, q2⟩ := hQ
    have en : (nI n).toInt = n := za_nI (by omega)
    refine zq_rebuild Sc en hn hP (zz_db_b hb n) (fun j hj => by rw [hF.1 43 _ (by omega)]; exact eP j hj) q1 q2 (zz_dc_b nc n) (b' := zz_db P b0 (n + 1)) rfl rec T (fun S5 f5 a5 b5 => ?_)
    rw [zc_1]
    refine hT _ ⟨hF.tr (f5.mo (fun k j h => by omega) (fun k j h => by omega)), a5, fun t ht => ?_⟩
    simp only [zz_dc]
    by_cases c : 120 + 40 * n ≤ t ∧ t < 160 + 40 * n
    · rw [if_pos c]
      have := b5 (t - (120 + 40 * n)) (by omega)
      rw [show 400 + 40 * n + (t - (120 + 40 * n)) = 280 + t by omega] at this
      exact this
    · rw [if_neg c, f5.2 48 _ (by omega)]; exact q2 t (by omega)
  · intro Sc hQ rec T hT
    unfold zb_X11_decode_123
    exact zT_ift (by decide) (hT _ hQ)
