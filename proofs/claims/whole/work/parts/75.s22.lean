/-! encode -/
/-- the law's encode: 2 of the class is 1 of the reference -/
def zOe (c : Int32 × Int32 × zs_T) : Prop := (c.1 = 0 ∨ c.1 = 2) ∧ zQ (zR (if c.1 = 2 then 1 else c.1)) (zf_X11_encode (zx_o c.1 c.2.1 c.2.2))
theorem zp_encode (S : zs_T) (h : zI S) : zQ zOe (zf_X10_encode S) := by
  obtain ⟨⟨n, hn, s1, s2, s3⟩, i2, i3, i4, i5, i6⟩ := id h
  have en : (nI n).toInt = n := za_nI (by omega)
  have e160 : (160 : Int32).toInt = 160 := by decide
  refine zQ.of (fun T hT => ?_)
  unfold zf_X10_encode
  rw [s1]
  refine zT_if (fun c => ?_) (fun c => hT _ ⟨Or.inr rfl, ?_⟩)
  · have c' := c
    rw [za_eq, en, e160] at c
    have hn160 : n = 160 := by omega
    subst hn160
    obtain ⟨h51, h52, h53, h54, h55, h56, h57, h58⟩ := i5
    have hnn : zz_enc (fun t => (S.1 1 t).toInt) (S.1 8 0).toInt (S.1 8 1).toInt (S.1 8 2).toInt (fun j => (S.1 16 j).toInt) (fun j => (S.1 7 j).toInt) (fun t => (S.1 20 t).toInt) := ⟨fun t ht => (s3 t ht).2, h52.2, za_b _, h54.2, fun j hj => (h55 j hj).2, fun j hj => (h56 j hj).2, fun t ht => (h57 t ht).2⟩
    refine zT_b1 (zp_describe S hnn (fun t _ => rfl) rfl rfl rfl (fun j _ => rfl) (fun j _ => rfl) (fun t _ => rfl) h58) (fun S1 h1 => zT_lt (fun S2 e2 => ?_))
    obtain ⟨f1, a1, a2, a3, a4, a5, a6, a7, a8⟩ := h1
    have f2 : zF (fun k j => k = 3 ∨ (k = 5 ∧ j = 9) ∨ (6 ≤ k ∧ k ≤ 28 ∧ ¬ (k = 25 ∧ (j < 5 ∨ 45 ≤ j))) ∨ (k = 0 ∧ j = 6)) zF_0 S S2 := by rw [e2]; exact (f1.mo (fun k j z => by omega) (fun _ _ z => z)).wi _ (by omega)
    have g2 : ∀ k j, ¬ k = 0 → S2.1 k j = S1.1 k j := fun k j hk => by rw [e2, zs_in _ _ (by omega)]
    refine hT _ ⟨Or.inl rfl, ?_⟩
    show zQ (zR 0) (zf_X11_encode (zx_o 0 (S2.1 5 9) S2))
    rw [zx_0]
    have f5 : zF zF_0 (fun k _ => k = 59) S2 (zs_wl S2 59 0 (Int32.toInt64 (S2.1 5 9))) := (zF.rf S2).wl _ rfl
    generalize e5 : zs_wl S2 59 0 (Int32.toInt64 (S2.1 5 9)) = S5 at f5
    have r5 : S5.2 59 0 = Int32.toInt64 (S2.1 5 9) := by rw [← e5, zs_ll]
    have l5 : ∀ k j, ¬ k = 59 → S5.2 k j = S.2 k j := fun k j hk => by rw [f5.2 k j hk, f2.2 k j (fun z => z)]
    have c41 : S5.1 40 1 = nI 160 := by rw [f5.1 _ _ (fun z => z), f2.1 _ _ (by omega)]; exact s2
    refine zQ.of (fun T hT => ?_)
    unfold zf_X11_encode
    rw [c41]
    refine zT_ift c' ?_
    obtain ⟨o, eo, po⟩ := zq_encode16 S5 hnn (fun t ht => by rw [l5 41 t (by omega)]; exact (s3 t ht).1) (by rw [l5 40 9 (by omega)]; exact h52.1) (by rw [l5 40 10 (by omega)]; exact h53) (by rw [l5 40 11 (by omega)]; exact h54.1) (fun j hj => by rw [l5 45 j (by omega)]; exact (h55 j hj).1) (fun j hj => by rw [l5 46 _ (by omega)]; exact (h56 j hj).1) (fun t ht => by rw [l5 48 t (by omega)]; exact (h57 t ht).1)
    rw [eo]
    obtain ⟨v, S7⟩ := o
    dsimp only at po
    obtain ⟨f7, b1, b2, b3, b4, b5, b6, b7, b8, b9, b10, b11⟩ := po
    refine hT _ ?_
    have k7 : ∀ k j, ¬ (k = 43 ∨ (k = 40 ∧ (j = 0 ∨ j = 1 ∨ j = 7 ∨ j = 28 ∨ j = 29))) → S7.1 k j = S2.1 k j := fun k j hk => by rw [f7.1 k j hk, f5.1 k j (fun z => z)]
    have q1 : ∀ k j, ¬ k = 0 → ¬ (k = 43 ∨ k = 40) → S7.1 k j = S1.1 k j := fun k j h0 hk => by rw [k7 k j (by omega), g2 k j h0]
    have F7 : zF (fun k j => k = 3 ∨ (k = 5 ∧ j = 9) ∨ (6 ≤ k ∧ k ≤ 28 ∧ ¬ (k = 25 ∧ (j < 5 ∨ 45 ≤ j))) ∨ (k = 0 ∧ j = 6) ∨ k = 43 ∨ (k = 40 ∧ (j = 0 ∨ j = 1 ∨ j = 7 ∨ j = 28 ∨ j = 29))) (fun k j => (k = 40 ∧ (j = 9 ∨ j = 10 ∨ j = 11)) ∨ (k = 45 ∧ j < 8) ∨ k = 46 ∨ (k = 48 ∧ j < 280) ∨ (49 ≤ k ∧ k ≤ 59)) S S7 :=
      ((f2.mo (fun k j z => by omega) (fun _ _ z => absurd z (fun z => z))).tr (f5.mo (fun _ _ z => absurd z (fun z => z)) (fun k j z => by omega))).tr (f7.mo (fun k j z => by omega) (fun k j z => by omega))
    have hw := hnn.2.2.1
    have zb := zz_st_b hnn.2.1 hnn.2.2.1 hnn.2.2.2.1 160 hnn.1
    have hfr : S7.1 40 7 = S7.1 5 9 := by
      rw [q1 5 9 (by omega) (by omega), a8, b8, f5.1 _ _ (fun z => z), f2.1 _ _ (by omega), h51]
    refine ⟨b10, fun _ => ?_, ⟨0, by omega, ?_, b9, fun t ht => absurd ht (Nat.not_lt_zero t)⟩, i2.fr F7 (fun k j z => by omega), fun j hj => ?_, i4.fr F7 (fun k j z => by omega), ⟨hfr, ?_, ?_, ?_, fun j hj => ?_, fun j hj => ?_, fun t ht => ?_, fun m hm hm2 => ?_⟩, i6.fr F7 (fun k j z => by omega) (fun k j z => by omega)⟩
    · show S7.2 59 0 = Int32.toInt64 v
      rw [b11, hfr, f7.2 59 0 (by omega), r5, k7 5 9 (by omega)]
    · show S7.1 0 6 = nI 0
      rw [k7 0 6 (by omega), e2, zs_ii]; rfl
    · show S7.1 43 j = S7.1 3 j
      apply Int32.toInt_inj.mp
      rw [b7 j hj, q1 3 j (by omega) (by omega), a7 j hj]
    · show (S7.2 40 9).toInt = (S7.1 8 0).toInt ∧ _
      rw [q1 8 0 (by omega) (by omega), a1, b1]; exact ⟨rfl, zb.1⟩
    · show (S7.2 40 10).toInt = (S7.1 8 1).toInt
      rw [q1 8 1 (by omega) (by omega), a2, b2]
    · show (S7.2 40 11).toInt = (S7.1 8 2).toInt ∧ _
      rw [q1 8 2 (by omega) (by omega), a3, b3]; exact ⟨rfl, zb.2.2⟩
    · show (S7.2 45 j).toInt = (S7.1 16 j).toInt ∧ _
      rw [q1 16 j (by omega) (by omega), a4 j hj, b4 j hj]; exact ⟨rfl, zz_Fg_b _ _ _ _ j⟩
    · show (S7.2 46 (j + 1)).toInt = (S7.1 7 j).toInt ∧ _
      rw [q1 7 j (by omega) (by omega), a5 j hj, b5 j hj]; exact ⟨rfl, zz_us_b hnn.2.2.2.2.2.1 160 (fun t _ => zz_Fx_b _ _ _ _ t) j hj⟩
    · show (S7.2 48 t).toInt = (S7.1 20 t).toInt ∧ _
      rw [q1 20 t (by omega) (by omega), a6 t ht, b6 t ht]; exact ⟨rfl, zz_cs_b hnn.2.2.2.2.2.2 4 _ (by omega)⟩
    · show (S7.1 25 m).toInt = 0
      rw [F7.1 25 m (by omega)]; exact h58 m hm hm2
  · show zQ (zR 1) (zf_X11_encode (zx_o 2 0 S))
    rw [zx_2]
    refine zQ.of (fun T hT => ?_)
    unfold zf_X11_encode
    rw [s2]
    refine zT_iff c ?_
    unfold zj_X11_encode_16
    refine zT_b2 (zr_1 S) (fun v1 S2 h2 => ?_)
    dsimp only at h2
    obtain ⟨q1, q2⟩ := h2
    subst q1; subst q2
    exact zT_iff (by decide) (hT _ (zR_no (by decide) h 0))
/-! take, hand, decode -/
theorem zz_outb_s (β : Nat → Nat → Nat) (st : Nat × (Nat → Nat)) (n : Nat) : zz_outb β st (n + 1) = zz_inb (β n) (zz_nb n) (zz_outb β st n) (zz_nb n) := rfl
theorem zz_outb_c {β γ : Nat → Nat → Nat} {st : Nat × (Nat → Nat)} : ∀ n, (∀ i, i < n → β i = γ i) → zz_outb β st n = zz_outb γ st n := by
  intro n
  induction n with
  | zero => intro _; rfl
  | succ n ih =>
    intro h
    rw [zz_outb_s, zz_outb_s, ih (fun i hi => h i (by omega)), h n (by omega)]
theorem zz_pack_c {p q : Nat → Int32} (h : ∀ i, i < 76 → p i = q i) : zz_pack p = zz_pack q := by
  have e := zz_outb_c (β := fun i b => zz_bi (p i) b) (γ := fun i b => zz_bi (q i) b) (st := zz_st0) 76 (fun i hi => by show (fun b => zz_bi (p i) b) = _; rw [h i hi])
  unfold zz_pack
  rw [e]
theorem zp_take (S : zs_T) (h : zI S) : zQ (fun c => zQ (fun o => c.1 = o.1 ∧ zI o.2) (zf_X11_take c.2)) (zf_X10_take S) := by
  obtain ⟨i1, ⟨n, hn, s1, s2, s3⟩, i3, i4, i5, i6⟩ := id h
  refine zQ.of (fun T hT => ?_)
  unfold zf_X10_take
  refine zT_b1 (zp_pack S) (fun S1 h1 => zT_lt (fun S2 e2 => hT _ ?_))
  obtain ⟨f1, x1⟩ := h1
  have f2 : zF (fun k j => (k = 2 ∧ j < 33) ∨ (k = 0 ∧ j = 7)) zF_0 S S2 := by rw [e2]; exact (f1.mo (fun k j z => by omega) (fun _ _ z => z)).wi _ (by omega)
  have r2 : S2.1 0 7 = (33 : Int32) := by rw [e2, zs_ii]
  have x2 : ∀ k, k < 33 → S2.1 2 k = nI (zz_pack (S.1 3) k) := fun k hk => by rw [e2, zs_in _ _ (by omega)]; exact x1 k hk
  show zQ (fun o => S2.1 0 7 = o.1 ∧ zI o.2) (zf_X11_take S2)
  refine (zq_take S2).mo (fun o ho => ?_)
  obtain ⟨a1, f3, a2, a3, x3⟩ := ho
  have F : zF (fun k j => (k = 2 ∧ j < 33) ∨ (k = 0 ∧ j = 7) ∨ (k = 42 ∧ j < 33) ∨ (k = 40 ∧ (j = 0 ∨ j = 3))) zF_0 S o.2 := (f2.mo (fun k j z => by omega) (fun _ _ z => z)).tr (f3.mo (fun k j z => by omega) (fun _ _ z => z))
  refine ⟨by rw [a1, r2], i1.fr F (fun k j z => by omega) (fun _ _ z => absurd z (fun z => z)), ⟨33, by omega, ?_, by rw [a3]; rfl, fun t ht => ?_⟩, i3.fr F (fun k j z => by omega), i4.fr F (fun k j z => by omega), i5.fr F (fun k j z => by omega) (fun _ _ z => absurd z (fun z => z)), i6.fr F (fun k j z => by omega) (fun _ _ z => absurd z (fun z => z))⟩
  · rw [f3.1 0 _ (by omega), r2]; rfl
  · rw [x3 t ht, f3.1 2 _ (by omega), x2 t ht, zz_pack_c (fun i hi => by rw [f2.1 43 i (by omega), i3 i hi])]
theorem zp_hand (S : zs_T) (h : zI S) (a1 : Int32) : zQ (fun r => zQ (fun o => r = o.1 ∧ zI o.2) (zf_X11_hand S a1)) (zf_X10_hand S a1) := by
  obtain ⟨i1, ⟨n, hn, s1, s2, s3⟩, i3, i4, i5, i6⟩ := id h
  have en : (nI n).toInt = n := za_nI (by omega)
  have e0 : (0 : Int32).toInt = 0 := by decide
  have hI : zI (zs_wi S 40 0 (0 : Int32)) := h.fr ((zF.rf S).wi _ ⟨rfl, rfl⟩)
  have c3 : (zs_wi S 40 0 (0 : Int32)).1 40 3 = nI n := by rw [zs_in _ _ (by omega)]; exact s2
  refine zQ.of (fun T hT => ?_)
  unfold zf_X10_hand
  rw [s1]
  refine zT_if (fun c => hT _ ?_) (fun c => zT_if (fun c1 => hT _ ?_) (fun c1 => ?_))
  · refine zQ.of (fun T hT => ?_)
    unfold zf_X11_hand
    refine zT_lt (fun S1 e1 => zT_ift c (hT _ ⟨rfl, by rw [e1]; exact hI⟩))
  · refine zQ.of (fun T hT => ?_)
    unfold zf_X11_hand
    refine zT_lt (fun S1 e1 => zT_iff c (zT_ift (by rw [e1, c3]; exact c1) (hT _ ⟨rfl, by rw [e1]; exact hI⟩)))
  · have c1' := c1
    have c' := c
    rw [za_lt, e0] at c
    rw [za_le, en] at c1
    have ea : a1.toInt = ((a1.toInt.toNat : Nat) : Int) := by omega
    refine zT_gi ea (by omega) ?_
    rw [za_pos ea]
    refine hT _ ?_
    refine zQ.of (fun T hT => ?_)
    unfold zf_X11_hand
    refine zT_lt (fun S1 e1 => zT_iff c' (zT_iff (by rw [e1, c3]; exact c1') (zT_gi ea (by omega) ?_)))
    rw [za_pos ea]
    refine hT _ ⟨?_, by rw [e1]; exact hI⟩
    show _ = S1.1 42 _
    rw [e1, zs_in _ _ (by omega)]; exact (s3 _ (by omega)).symm
theorem zp_decode (S : zs_T) (h : zI S) : zQ (fun c => zQ (fun o => c.1 = o.1 ∧ zI o.2) (zf_X11_decode c.2)) (zf_X10_decode S) := by
  obtain ⟨i1, ⟨n, hn, s1, s2, s3⟩, i3, i4, i5, i6⟩ := id h
  have en : (nI n).toInt = n := za_nI (by omega)
  have e33 : (33 : Int32).toInt = 33 := by decide
  -- nothing good at hand
  have bad : ∀ S1, S1 = zs_wi S 0 7 (0 : Int32) → (∀ S2, S2 = zs_wi S1 40 0 (0 : Int32) → ∀ T : Option (Int32 × zs_T) → Prop, T (zj_X11_decode_31 S2) → T (zf_X11_decode S1)) → zQ (fun o => (-1 : Int32) = o.1 ∧ zI o.2) (zf_X11_decode S1) := by
    intro S1 e1 hk
    refine hk _ rfl _ ?_
    refine zQ.of (fun T hT => ?_)
    unfold zj_X11_decode_31 zj_X11_decode_32
    refine zT_lt (fun S3 e3 => zT_ift rfl (hT _ ⟨rfl, ?_⟩))
    show zI S3
    have F : zF (fun k j => (k = 0 ∧ j = 7) ∨ (k = 40 ∧ (j = 0 ∨ j = 3))) zF_0 S S3 := by rw [e3, e1]; exact (((zF.rf S).wi _ (by omega)).wi _ (by omega)).wi _ (by omega)
    exact ⟨i1.fr F (fun k j z => by omega) (fun _ _ z => absurd z (fun z => z)), ⟨0, by omega, by rw [F.2 |> fun _ => e3, zs_in _ _ (by omega), zs_in _ _ (by omega), e1, zs_ii]; rfl, by rw [e3, zs_ii]; rfl, fun t ht => absurd ht (Nat.not_lt_zero t)⟩, i3.fr F (fun k j z => by omega), i4.fr F (fun k j z => by omega), i5.fr F (fun k j z => by omega) (fun _ _ z => absurd z (fun z => z)), i6.fr F (fun k j z => by omega) (fun _ _ z => absurd z (fun z => z))⟩
  have c403 : ∀ S1, S1 = zs_wi S 0 7 (0 : Int32) → (zs_wi S1 40 0 (0 : Int32)).1 40 3 = nI n := fun S1 e1 => by rw [zs_in _ _ (by omega), e1, zs_in _ _ (by omega)]; exact s2
  refine zQ.of (fun T hT => ?_)
  have k26 : (¬ nI n = (33 : Int32) ∨ ¬ ((S.1 2 0) >>> ((4 : Int32) &&& 31)) = (13 : Int32)) → T (zj_X10_decode_26 S) := by
    intro hno
    unfold zj_X10_decode_26 zj_X10_decode_27
    refine zT_lt (fun S1 e1 => zT_ift rfl (hT _ ?_))
    show zQ (fun o => (-1 : Int32) = o.1 ∧ zI o.2) (zf_X11_decode S1)
    refine bad S1 e1 (fun S2 e2 T hT => ?_)
    unfold zf_X11_decode
    refine zT_lt (fun S2' e2' => ?_)
    rw [← e2] at e2'
    subst e2'
    rw [e2, c403 S1 e1]
    rw [e2] at hT
    by_cases c : nI n = (33 : Int32)
    · refine zT_ift c (zT_gi zc_c0 (by omega) ?_)
      rw [za_pos zc_c0]
      have hb : (zs_wi S1 40 0 (0 : Int32)).1 42 0 = S.1 2 0 := by
        rw [zs_in _ _ (by omega), e1, zs_in _ _ (by omega)]
        have : n = 33 := by rw [za_eq, en, e33] at c; omega
        exact s3 0 (by omega)
      rw [hb]
      refine zT_iff (fun z => ?_) hT
      rcases hno with h1 | h1
      · exact h1 c
      · exact h1 z
    · exact zT_iff c hT
  unfold zf_X10_decode
  rw [s1]
  refine zT_if (fun c => zT_gi zc_c0 (by omega) ?_) (fun c => k26 (Or.inl c))
  rw [za_pos zc_c0]
  refine zT_if (fun c1 => ?_) (fun c1 => k26 (Or.inr c1))
  have hn33 : n = 33 := by rw [za_eq, en, e33] at c; omega
  subst hn33
  unfold zj_X10_decode_27
  refine zT_lt (fun S1 e1 => zT_iff (by decide) ?_)
  have b1 : ∀ k, k < 33 → S1.1 2 k = S.1 2 k := fun k hk => by rw [e1, zs_in _ _ (by omega)]
  refine zT_b1 (zp_unpack S1 b1) (fun S2 h2 => ?_)
  obtain ⟨f2, x2⟩ := h2
  have F2 : zF (fun k j => (k = 0 ∧ j = 7) ∨ k = 3) zF_0 S S2 := by
    refine zF.tr ?_ (f2.mo (fun k j z => by omega) (fun _ _ z => z))
    rw [e1]; exact (zF.rf S).wi _ (by omega)
  obtain ⟨h61, ⟨b, hb1, hb2, hb3⟩, h63, h64, h65, h66⟩ := i6
  have hU := zz_U_ok (S.1 2)
  have hUi : ∀ j, j < 76 → (nI (zz_U (S.1 2) j)).toInt = ((zz_U (S.1 2) j : Nat) : Int) := fun j hj => za_i1 (by have := zz_val_7 (zz_ga_b (S.1 2)) (zz_pla j) (t := zz_nb j) (zz_nb_b j hj).2; unfold zz_U; omega)
  have hnn : zz_dec (fun i => ((zz_U (S.1 2) i : Nat) : Int)) (fun j => (S.1 32 j).toInt) (fun j => (S.1 30 j).toInt) (fun t => (S.1 36 t).toInt) b (S.1 29 5).toInt := ⟨hU, hb1, fun j hj => (h64 j hj).2, fun j hj => (h65 j hj).2, fun t ht => (h66 t ht).2, h63.2⟩
  refine zT_b1 (zp_speak S2 hnn (fun j hj => by rw [x2 j hj]; exact hUi j hj) (by rw [F2.1 29 _ (by omega)]; exact hb2) (fun t _ => by rw [F2.1 36 _ (by omega)]) (fun j _ => by rw [F2.1 32 _ (by omega)]) (fun j _ => by rw [F2.1 30 _ (by omega)]) (by rw [F2.1 29 _ (by omega)])) (fun S3 h3 => hT _ ?_)
  obtain ⟨f3, a1, a2, a3, a4, a5, a6, a7⟩ := h3
  show zQ (fun o => S3.1 29 6 = o.1 ∧ zI o.2) (zf_X11_decode S3)
  have F3 : zF (fun k j => (k = 0 ∧ j = 7) ∨ k = 3 ∨ k = 4 ∨ (k = 29 ∧ (j = 4 ∨ j = 5 ∨ j = 6)) ∨ (30 ≤ k ∧ k ≤ 39)) zF_0 S S3 := (F2.mo (fun k j z => by omega) (fun _ _ z => z)).tr (f3.mo (fun k j z => by omega) (fun _ _ z => z))
  refine zQ.of (fun T hT => ?_)
  unfold zf_X11_decode
  refine zT_lt (fun S4 e4 => ?_)
  have g4 : ∀ k j, ¬ (k = 40 ∧ j = 0) → S4.1 k j = S3.1 k j := fun k j hk => by rw [e4, zs_in _ _ hk]
  have l4 : ∀ k j, S4.2 k j = S.2 k j := fun k j => by rw [e4]; exact F3.2 k j (fun z => z)
  have c43 : S4.1 40 3 = nI 33 := by rw [g4 _ _ (by omega), F3.1 40 _ (by omega)]; exact s2
  have c42 : ∀ k, k < 33 → S4.1 42 k = S.1 2 k := fun k hk => by rw [g4 _ _ (by omega), F3.1 42 _ (by omega)]; exact s3 k hk
  rw [c43]
  refine zT_ift c (zT_gi zc_c0 (by omega) ?_)
  rw [za_pos zc_c0, c42 0 (by omega)]
  refine zT_ift c1 ?_
  unfold zj_X11_decode_32
  refine zT_lt (fun S5 e5 => zT_iff (by decide) ?_)
  have g5 : ∀ k j, ¬ (k = 40 ∧ (j = 0 ∨ j = 3)) → S5.1 k j = S3.1 k j := fun k j hk => by rw [e5, zs_in _ _ (by omega), g4 k j (by omega)]
  have l5 : ∀ k j, S5.2 k j = S.2 k j := fun k j => by rw [e5]; exact l4 k j
  refine zT_b1 (zq_unpack S5 (B := S.1 2) (fun k hk => by rw [e5, zs_in _ _ (by omega)]; exact c42 k hk)) (fun S11 h11 => ?_)
  obtain ⟨f11, x11⟩ := h11
  refine zT_b1 (zq_dparts S11 (P := fun i => ((zz_U (S.1 2) i : Nat) : Int)) (c0 := fun t => (S.1 36 t).toInt) (b0 := b) hU hb1 (fun j hj => by rw [x11 j hj]; exact hUi j hj) (by rw [f11.1 40 _ (by omega), g5 40 16 (by omega), F3.1 40 _ (by omega)]; exact hb3) (fun t ht => by rw [f11.2 48 _ (fun z => z), l5]; exact (h66 t ht).1) (fun t ht => (h66 t ht).2)) (fun S23 h23 => ?_)
  obtain ⟨f23, a23, x23⟩ := h23
  refine zT_b1 (zq_makesG S23 (p := fun i => ((zz_U (S.1 2) i : Nat) : Int)) (fun t ht => by rw [f23.1 43 _ (by omega), x11 t (by omega)]; exact hUi t (by omega)) (fun t ht => by have := hU.1 t ht; dsimp only at this ⊢; omega)) (fun S24 h24 => ?_)
  obtain ⟨f24, x24⟩ := h24
  refine zT_b1 (zq_giveBack S24 (h := fun j => (S.1 32 j).toInt) (g := zz_Dg (fun i => ((zz_U (S.1 2) i : Nat) : Int))) (v := fun j => (S.1 30 j).toInt) (x := zz_Dx (fun i => ((zz_U (S.1 2) i : Nat) : Int)) (fun t => (S.1 36 t).toInt) b) (e := (S.1 29 5).toInt) (fun j hj => by rw [f24.2 45 _ (by omega), f23.2 45 _ (by omega), f11.2 45 _ (fun z => z), l5]; exact (h64 j hj).1) x24 (fun j hj => (h64 j hj).2) (fun j _ => zz_cut_b _) (fun j hj => (h65 j hj).2) (fun t ht => zz_dc_b (fun t ht => (h66 t ht).2) 4 _ (by omega)) h63.2 (fun t ht => by rw [f24.2 48 _ (by omega), show 400 + t = 280 + (120 + t) by omega]; exact x23 _ (by omega)) (fun j hj => by rw [f24.2 47 _ (by omega), f23.2 47 _ (by omega), f11.2 47 _ (fun z => z), l5]; exact (h65 j hj).1) (by rw [f24.2 40 _ (by omega), f23.2 40 _ (by omega), f11.2 40 _ (fun z => z), l5]; exact h63.1)) (fun S42 h42 => ?_)
  obtain ⟨f42, a42, b42, x42⟩ := h42
  refine zT_b1 (zq_keepsG S42 (a1 := 8) (q := 8) (by decide) (by omega) (g := zz_Dg (fun i => ((zz_U (S.1 2) i : Nat) : Int))) (fun j hj => by rw [f42.2 57 _ (by omega)]; exact x24 j hj)) (fun S43 h43 => ?_)
  obtain ⟨f43, x43⟩ := h43
  refine zT_b1 (zq_settles S43 (a1 := 280) (q := 280) (by decide) (by omega)) (fun S44 h44 => zT_lt (fun S45 e45 => hT _ ?_))
  obtain ⟨f44, x44⟩ := h44
  have G : ∀ k j, ¬ (k = 43 ∨ k = 44 ∨ (k = 40 ∧ (j = 0 ∨ j = 3 ∨ j = 8 ∨ j = 16 ∨ j = 28 ∨ j = 29))) → S45.1 k j = S3.1 k j := fun k j hk => by
    rw [e45, zs_in _ _ (by omega), f44.1 k j (fun z => z), f43.1 k j (fun z => z), f42.1 k j (by omega), f24.1 k j (fun z => z), f23.1 k j (by omega), f11.1 k j (by omega), g5 k j (by omega)]
  have GL : ∀ k j, ¬ (k = 58 ∨ k = 57 ∨ k = 47 ∨ k = 56 ∨ (k = 40 ∧ j = 17) ∨ (k = 45 ∧ 8 ≤ j) ∨ (k = 48 ∧ 280 ≤ j)) → S45.2 k j = S.2 k j := fun k j hk => by
    rw [e45]
    show S44.2 k j = _
    rw [f44.2 k j (by omega), f43.2 k j (by omega), f42.2 k j (by omega), f24.2 k j (by omega), f23.2 k j (by omega), f11.2 k j (fun z => z), l5]
  have FF : zF (fun k j => (k = 0 ∧ j = 7) ∨ k = 3 ∨ k = 4 ∨ (k = 29 ∧ (j = 4 ∨ j = 5 ∨ j = 6)) ∨ (30 ≤ k ∧ k ≤ 39) ∨ k = 43 ∨ k = 44 ∨ (k = 40 ∧ (j = 0 ∨ j = 3 ∨ j = 8 ∨ j = 16 ∨ j = 28 ∨ j = 29))) (fun k j => k = 58 ∨ k = 57 ∨ k = 47 ∨ k = 56 ∨ (k = 40 ∧ j = 17) ∨ (k = 45 ∧ 8 ≤ j) ∨ (k = 48 ∧ 280 ≤ j)) S S45 := ⟨fun k j hk => by rw [G k j (by omega), F3.1 k j (by omega)], fun k j hk => GL k j hk⟩
  have L47 : ∀ j, S45.2 47 j = S42.2 47 j := fun j => by rw [e45]; show S44.2 47 j = _; rw [f44.2 47 j (by omega), f43.2 47 j (by omega)]
  have r45 : S45.1 40 8 = S3.1 29 6 := by
    rw [e45, zs_ii, f44.1 _ _ (fun z => z), f43.1 _ _ (fun z => z), f42.1 _ _ (by omega), f24.1 _ _ (fun z => z), f23.1 _ _ (by omega), f11.1 _ _ (by omega), g5 _ _ (by omega), F3.1 40 8 (by omega), h61, a7, F2.1 29 6 (by omega)]
  refine ⟨by show S3.1 29 6 = S45.1 40 8; rw [r45], i1.fr FF (fun k j z => by omega) (fun k j z => by omega), ⟨0, by omega, ?_, ?_, fun t ht => absurd ht (Nat.not_lt_zero t)⟩, fun j hj => ?_, fun j hj => ?_, i5.fr FF (fun k j z => by omega) (fun k j z => by omega), ⟨?_, ⟨zz_db (fun i => ((zz_U (S.1 2) i : Nat) : Int)) b 4, zz_db_b hb1 4, ?_, ?_⟩, ?_, fun j hj => ?_, fun j hj => ?_, fun t ht => ?_⟩⟩
  · show S45.1 0 7 = nI 0
    rw [G 0 7 (by omega), f3.1 0 _ (by omega), f2.1 0 _ (by omega), e1, zs_ii]; rfl
  · show S45.1 40 3 = nI 0
    rw [e45, zs_in _ _ (by omega), f44.1 _ _ (fun z => z), f43.1 _ _ (fun z => z), f42.1 _ _ (by omega), f24.1 _ _ (fun z => z), f23.1 _ _ (by omega), f11.1 _ _ (by omega), e5, zs_ii]; rfl
  · show S45.1 43 j = S45.1 3 j
    rw [G 3 j (by omega), f3.1 3 _ (by omega), x2 j hj, e45, zs_in _ _ (by omega), f44.1 _ _ (fun z => z), f43.1 _ _ (fun z => z), f42.1 _ _ (by omega), f24.1 _ _ (fun z => z), f23.1 _ _ (by omega), x11 j hj]
  · show S45.1 44 j = S45.1 4 j
    apply Int32.toInt_inj.mp
    rw [G 4 j (by omega), a6 j hj, e45, zs_in _ _ (by omega), f44.1 _ _ (fun z => z), f43.1 _ _ (fun z => z), x42 j hj]
  · show S45.1 40 8 = S45.1 29 6
    rw [r45, G 29 6 (by omega)]
  · show (S45.1 29 4).toInt = _
    rw [G 29 4 (by omega)]; exact a1
  · show (S45.1 40 16).toInt = _
    rw [e45, zs_in _ _ (by omega), f44.1 _ _ (fun z => z), f43.1 _ _ (fun z => z), f42.1 _ _ (by omega), f24.1 _ _ (fun z => z)]; exact a23
  · show (S45.2 40 17).toInt = (S45.1 29 5).toInt ∧ _
    rw [G 29 5 (by omega), a2, e45]
    show (S44.2 40 17).toInt = _ ∧ _
    rw [f44.2 _ _ (by omega), f43.2 _ _ (by omega), b42]; exact ⟨rfl, zz_es_b h63.2 160⟩
  · show (S45.2 45 (8 + j)).toInt = (S45.1 32 j).toInt ∧ _
    rw [G 32 j (by omega), a3 j hj, e45]
    show (S44.2 45 (8 + j)).toInt = _ ∧ _
    rw [f44.2 _ _ (by omega), x43 j hj]; exact ⟨rfl, zz_cut_b _⟩
  · show (S45.2 47 j).toInt = (S45.1 30 j).toInt ∧ _
    rw [G 30 j (by omega), a4 j hj, L47, a42 j hj]; exact ⟨rfl, zz_vs_b (fun j hj => (h65 j hj).2) 160 (fun t ht => zz_dc_b (fun t ht => (h66 t ht).2) 4 _ (by omega)) j hj⟩
  · show (S45.2 48 (280 + t)).toInt = (S45.1 36 t).toInt ∧ _
    rw [G 36 t (by omega), a5 t ht, e45]
    show (S44.2 48 (280 + t)).toInt = _ ∧ _
    rw [x44 t ht, f43.2 _ _ (by omega), f42.2 _ _ (by omega), f24.2 _ _ (by omega), show 280 + 160 + t = 280 + (160 + t) by omega, x23 _ (by omega)]; exact ⟨rfl, zz_dc_b (fun t ht => (h66 t ht).2) 4 _ (by omega)⟩
