/-! state -/
theorem zl_i {x : Int64} {y : Int32} (h : x.toInt = y.toInt) : Int64.toInt32 x = y := by
  rw [za_eq]; exact za_l2i h (za_b y).1 (za_b y).2
def zst_b (S2 : zs_T) (y1 y2 : Int32) : Option (Int32 × zs_T) := (if y1 = (0 : Int32) then zc_gi (((8 : Int32) * y1) + y2) 16 (some ((Int64.toInt32 (S2.2 45 (Int32.toNatClampNeg (((8 : Int32) * y1) + y2)))), S2)) else if y1 = (1 : Int32) then zc_gi (((8 : Int32) * y1) + y2) 16 (some ((Int64.toInt32 (S2.2 45 (Int32.toNatClampNeg (((8 : Int32) * y1) + y2)))), S2)) else if y1 = (2 : Int32) then zc_gi (((280 : Int32) * (y1 - (2 : Int32))) + y2) 560 (some ((Int64.toInt32 (S2.2 48 (Int32.toNatClampNeg (((280 : Int32) * (y1 - (2 : Int32))) + y2)))), S2)) else if y1 = (3 : Int32) then zc_gi (((280 : Int32) * (y1 - (2 : Int32))) + y2) 560 (some ((Int64.toInt32 (S2.2 48 (Int32.toNatClampNeg (((280 : Int32) * (y1 - (2 : Int32))) + y2)))), S2)) else if y1 = (4 : Int32) then zc_gi (y2 + (1 : Int32)) 9 (some ((Int64.toInt32 (S2.2 46 (Int32.toNatClampNeg (y2 + (1 : Int32))))), S2)) else if y1 = (5 : Int32) then zc_gi y2 9 (some ((Int64.toInt32 (S2.2 47 (Int32.toNatClampNeg y2))), S2)) else if y1 = (6 : Int32) then (if y2 = 0 then some ((Int64.toInt32 (S2.2 40 9)), S2) else (if y2 = (1 : Int32) then some ((Int64.toInt32 (S2.2 40 10)), S2) else some ((Int64.toInt32 (S2.2 40 11)), S2))) else (if y2 = 0 then some ((S2.1 40 16), S2) else some ((Int64.toInt32 (S2.2 40 17)), S2)))
theorem zst_67 (S : zs_T) (y1 y2 z0 : Int32) : zj_X11_state_67 S y1 y2 z0 = zc_b2 (zf_X11_refuses S z0) (fun v1 S2 => (if v1 = 0 then zst_b S2 y1 y2 else some ((0 : Int32), S2))) := rfl
theorem zst_c (a1 : Int32) (h : a1.toInt < 0 ∨ 7 < a1.toInt) : zf_X10_stateCells a1 = 0 := by
  unfold zf_X10_stateCells
  rw [if_neg (by rw [za_eq, show (0 : Int32).toInt = 0 by decide]; omega), if_neg (by rw [za_eq, show (1 : Int32).toInt = 1 by decide]; omega), if_neg (by rw [za_eq, show (2 : Int32).toInt = 2 by decide]; omega), if_neg (by rw [za_eq, show (3 : Int32).toInt = 3 by decide]; omega), if_neg (by rw [za_eq, show (4 : Int32).toInt = 4 by decide]; omega), if_neg (by rw [za_eq, show (5 : Int32).toInt = 5 by decide]; omega), if_neg (by rw [za_eq, show (6 : Int32).toInt = 6 by decide]; omega), if_neg (by rw [za_eq, show (7 : Int32).toInt = 7 by decide]; omega)]
theorem zst_8 (a1 : Int32) (h0 : 0 ≤ a1.toInt) (h7 : a1.toInt ≤ 7) : a1 = 0 ∨ a1 = 1 ∨ a1 = 2 ∨ a1 = 3 ∨ a1 = 4 ∨ a1 = 5 ∨ a1 = 6 ∨ a1 = 7 := by
  rw [za_eq, za_eq, za_eq, za_eq, za_eq, za_eq, za_eq, za_eq, show (0 : Int32).toInt = 0 by decide, show (1 : Int32).toInt = 1 by decide, show (2 : Int32).toInt = 2 by decide, show (3 : Int32).toInt = 3 by decide, show (4 : Int32).toInt = 4 by decide, show (5 : Int32).toInt = 5 by decide, show (6 : Int32).toInt = 6 by decide, show (7 : Int32).toInt = 7 by decide]
  omega
theorem zst_u (S : zs_T) (a1 a2 : Int32) : zf_X11_state S a1 a2 = zj_X11_state_51 S a1 a2 (zf_X10_stateCells a1) := by
  by_cases c : a1.toInt < 0 ∨ 7 < a1.toInt
  · rw [zst_c a1 c]
    unfold zf_X11_state
    by_cases c1 : a1.toInt < 0
    · rw [if_pos (by rw [za_lt, show (0 : Int32).toInt = 0 by decide]; exact c1)]; rfl
    · rw [if_neg (by rw [za_lt, show (0 : Int32).toInt = 0 by decide]; exact c1), if_neg (by rw [za_le, show (7 : Int32).toInt = 7 by decide]; omega)]; rfl
  · rcases zst_8 a1 (by omega) (by omega) with e | e | e | e | e | e | e | e
    all_goals subst e
    · unfold zf_X11_state; rw [if_neg (by decide), if_pos (by decide), if_neg (by decide), if_neg (by decide), if_neg (by decide), if_neg (by decide)]; rfl
    · unfold zf_X11_state; rw [if_neg (by decide), if_pos (by decide), if_neg (by decide), if_neg (by decide), if_neg (by decide), if_neg (by decide)]; rfl
    · unfold zf_X11_state; rw [if_neg (by decide), if_pos (by decide), if_pos (by decide)]; rfl
    · unfold zf_X11_state; rw [if_neg (by decide), if_pos (by decide), if_neg (by decide), if_pos (by decide)]; rfl
    · unfold zf_X11_state; rw [if_neg (by decide), if_pos (by decide), if_neg (by decide), if_neg (by decide), if_neg (by decide), if_neg (by decide)]; rfl
    · unfold zf_X11_state; rw [if_neg (by decide), if_pos (by decide), if_neg (by decide), if_neg (by decide), if_neg (by decide), if_neg (by decide)]; rfl
    · unfold zf_X11_state; rw [if_neg (by decide), if_pos (by decide), if_neg (by decide), if_neg (by decide), if_pos (by decide)]; rfl
    · unfold zf_X11_state; rw [if_neg (by decide), if_pos (by decide), if_neg (by decide), if_neg (by decide), if_neg (by decide), if_pos (by decide)]; rfl
theorem zst_no {S : zs_T} (h : zI S) (a1 a2 : Int32) : zQ (zR 1) (zj_X11_state_62 S a1 a2) := by
  refine zQ.of (fun T hT => ?_)
  unfold zj_X11_state_62
  rw [zst_67]
  refine zT_b2 (zr_1 S) (fun v1 S2 h2 => ?_)
  dsimp only at h2
  obtain ⟨q1, q2⟩ := h2
  subst q1; subst q2
  exact zT_iff (by decide) (hT _ (zR_no (by decide) h 0))
theorem zst_yes {S : zs_T} (h : zI S) {a1 a2 : Int32} (c : ¬ a2 < 0) (c1 : a2 < zf_X10_stateCells a1) (r : Int32) (hk : ∀ T : Option (Int32 × zs_T) → Prop, (∀ v, v = r → T (some (v, zS5 S r))) → T (zst_b (zS5 S r) a1 a2)) : zQ (zR 0) (zf_X11_state (zx_o 0 r S) a1 a2) := by
  rw [zx_0, zst_u]
  unfold zj_X11_state_51
  rw [if_neg c, if_pos c1, zst_67]
  refine zQ.of (fun T hT => ?_)
  refine zT_b2 (zr_0 _) (fun v1 S2 h2 => ?_)
  dsimp only at h2
  obtain ⟨q1, q2⟩ := h2
  subst q1
  have q2 : S2 = zS5 S r := q2
  subst q2
  exact zT_ift rfl (hk T (fun v e => hT _ (zR_rd h e)))
theorem zp_state (S : zs_T) (h : zI S) (a1 a2 : Int32) : zQ (zO1 (fun S => zf_X11_state S a1 a2)) (zf_X10_state S a1 a2) := by
  obtain ⟨-, -, -, -, ⟨-, ⟨k0, -, -⟩, k1, ⟨k2, -, -⟩, h5, h6, h7, -⟩, ⟨-, ⟨b, -, b1, b2⟩, ⟨l5, -, -⟩, m5, m6, m7⟩⟩ := id h
  have e0 : (0 : Int32).toInt = 0 := by decide
  refine zQ.of (fun T hT => ?_)
  unfold zf_X10_state
  refine zT_if (fun c => hT _ ⟨Or.inr rfl, ?_⟩) (fun c => zT_lt (fun v1 ev => zT_if (fun c1 => ?_) (fun c1 => hT _ ⟨Or.inr rfl, ?_⟩)))
  · show zQ (zR 1) (zf_X11_state (zx_o 1 0 S) a1 a2)
    rw [zx_1, zst_u]; unfold zj_X11_state_51; rw [if_pos c]; exact zst_no h a1 a2
  · rw [ev] at c1
    have d : ¬ a2.toInt < 0 := by rw [za_lt, e0] at c; exact c
    have ea : a2.toInt = ((a2.toInt.toNat : Nat) : Int) := by omega
    generalize a2.toInt.toNat = n at ea
    have ha1 : ¬ (a1.toInt < 0 ∨ 7 < a1.toInt) := fun z => by
      rw [zst_c a1 z, za_lt, e0] at c1; exact d c1
    rcases zst_8 a1 (by omega) (by omega) with e | e | e | e | e | e | e | e
    all_goals subst e
    · have hn : a2 < (8 : Int32) := c1
      rw [za_lt, ea, show (8 : Int32).toInt = 8 by decide] at hn
      refine zT_ift rfl (zT_gi ea (by omega) ?_)
      rw [za_pos ea]
      refine hT _ ⟨Or.inl rfl, zst_yes h c c1 _ (fun T hT => ?_)⟩
      have e : ((8 : Int32) * 0 + a2).toInt = ((n : Nat) : Int) := by rw [za_add (show ((8 : Int32) * 0).toInt = 0 by decide) ea (by omega) (by omega)]; omega
      unfold zst_b
      refine zT_ift rfl (zT_gi e (by omega) ?_)
      rw [za_pos e]
      refine hT _ (zl_i ?_)
      rw [(zS5_f S _).2 45 n (by omega)]; exact (h5 n (by omega)).1
    · have hn : a2 < (8 : Int32) := c1
      rw [za_lt, ea, show (8 : Int32).toInt = 8 by decide] at hn
      refine zT_iff (by decide) (zT_ift rfl (zT_gi ea (by omega) ?_))
      rw [za_pos ea]
      refine hT _ ⟨Or.inl rfl, zst_yes h c c1 _ (fun T hT => ?_)⟩
      have e : ((8 : Int32) * 1 + a2).toInt = ((8 + n : Nat) : Int) := by rw [za_add (show ((8 : Int32) * 1).toInt = 8 by decide) ea (by omega) (by omega)]; omega
      unfold zst_b
      refine zT_iff (by decide) (zT_ift rfl (zT_gi e (by omega) ?_))
      rw [za_pos e]
      refine hT _ (zl_i ?_)
      rw [(zS5_f S _).2 45 _ (by omega)]; exact (m5 n (by omega)).1
    · have hn : a2 < (120 : Int32) := c1
      rw [za_lt, ea, show (120 : Int32).toInt = 120 by decide] at hn
      refine zT_iff (by decide) (zT_iff (by decide) (zT_ift rfl (zT_gi ea (by omega) ?_)))
      rw [za_pos ea]
      refine hT _ ⟨Or.inl rfl, zst_yes h c c1 _ (fun T hT => ?_)⟩
      have e : ((280 : Int32) * (2 - 2) + a2).toInt = ((n : Nat) : Int) := by rw [za_add (show ((280 : Int32) * (2 - 2)).toInt = 0 by decide) ea (by omega) (by omega)]; omega
      unfold zst_b
      refine zT_iff (by decide) (zT_iff (by decide) (zT_ift rfl (zT_gi e (by omega) ?_)))
      rw [za_pos e]
      refine hT _ (zl_i ?_)
      rw [(zS5_f S _).2 48 _ (by omega)]; exact (h7 n (by omega)).1
    · have hn : a2 < (120 : Int32) := c1
      rw [za_lt, ea, show (120 : Int32).toInt = 120 by decide] at hn
      refine zT_iff (by decide) (zT_iff (by decide) (zT_iff (by decide) (zT_ift rfl (zT_gi ea (by omega) ?_))))
      rw [za_pos ea]
      refine hT _ ⟨Or.inl rfl, zst_yes h c c1 _ (fun T hT => ?_)⟩
      have e : ((280 : Int32) * (3 - 2) + a2).toInt = ((280 + n : Nat) : Int) := by rw [za_add (show ((280 : Int32) * (3 - 2)).toInt = 280 by decide) ea (by omega) (by omega)]; omega
      unfold zst_b
      refine zT_iff (by decide) (zT_iff (by decide) (zT_iff (by decide) (zT_ift rfl (zT_gi e (by omega) ?_))))
      rw [za_pos e]
      refine hT _ (zl_i ?_)
      rw [(zS5_f S _).2 48 _ (by omega)]; exact (m7 n (by omega)).1
    · have hn : a2 < (8 : Int32) := c1
      rw [za_lt, ea, show (8 : Int32).toInt = 8 by decide] at hn
      refine zT_iff (by decide) (zT_iff (by decide) (zT_iff (by decide) (zT_iff (by decide) (zT_ift rfl (zT_gi ea (by omega) ?_)))))
      rw [za_pos ea]
      refine hT _ ⟨Or.inl rfl, zst_yes h c c1 _ (fun T hT => ?_)⟩
      have e : (a2 + (1 : Int32)).toInt = ((n + 1 : Nat) : Int) := by rw [za_add ea (show (1 : Int32).toInt = 1 by decide) (by omega) (by omega)]; omega
      unfold zst_b
      refine zT_iff (by decide) (zT_iff (by decide) (zT_iff (by decide) (zT_iff (by decide) (zT_ift rfl (zT_gi e (by omega) ?_)))))
      rw [za_pos e]
      refine hT _ (zl_i ?_)
      rw [(zS5_f S _).2 46 _ (by omega)]; exact (h6 n (by omega)).1
    · have hn : a2 < (8 : Int32) := c1
      rw [za_lt, ea, show (8 : Int32).toInt = 8 by decide] at hn
      refine zT_iff (by decide) (zT_iff (by decide) (zT_iff (by decide) (zT_iff (by decide) (zT_iff (by decide) (zT_ift rfl (zT_gi ea (by omega) ?_))))))
      rw [za_pos ea]
      refine hT _ ⟨Or.inl rfl, zst_yes h c c1 _ (fun T hT => ?_)⟩
      unfold zst_b
      refine zT_iff (by decide) (zT_iff (by decide) (zT_iff (by decide) (zT_iff (by decide) (zT_iff (by decide) (zT_ift rfl (zT_gi ea (by omega) ?_))))))
      rw [za_pos ea]
      refine hT _ (zl_i ?_)
      rw [(zS5_f S _).2 47 _ (by omega)]; exact (m6 n (by omega)).1
    · refine zT_iff (by decide) (zT_iff (by decide) (zT_iff (by decide) (zT_iff (by decide) (zT_iff (by decide) (zT_iff (by decide) (zT_ift rfl ?_))))))
      unfold zf_X3_goingOn
      by_cases d0 : a2 = 0
      · rw [if_pos d0]
        refine hT _ ⟨Or.inl rfl, zst_yes h c c1 _ (fun T hT => ?_)⟩
        unfold zst_b
        refine zT_iff (by decide) (zT_iff (by decide) (zT_iff (by decide) (zT_iff (by decide) (zT_iff (by decide) (zT_iff (by decide) (zT_ift rfl (zT_ift d0 (hT _ (zl_i ?_)))))))))
        rw [(zS5_f S _).2 40 _ (by omega)]; exact k0
      · by_cases d1 : a2 = 1
        · rw [if_neg d0, if_pos d1]
          refine hT _ ⟨Or.inl rfl, zst_yes h c c1 _ (fun T hT => ?_)⟩
          unfold zst_b
          refine zT_iff (by decide) (zT_iff (by decide) (zT_iff (by decide) (zT_iff (by decide) (zT_iff (by decide) (zT_iff (by decide) (zT_ift rfl (zT_iff d0 (zT_ift d1 (hT _ (zl_i ?_))))))))))
          rw [(zS5_f S _).2 40 _ (by omega)]; exact k1
        · rw [if_neg d0, if_neg d1]
          refine hT _ ⟨Or.inl rfl, zst_yes h c c1 _ (fun T hT => ?_)⟩
          unfold zst_b
          refine zT_iff (by decide) (zT_iff (by decide) (zT_iff (by decide) (zT_iff (by decide) (zT_iff (by decide) (zT_iff (by decide) (zT_ift rfl (zT_iff d0 (zT_iff d1 (hT _ (zl_i ?_))))))))))
          rw [(zS5_f S _).2 40 _ (by omega)]; exact k2
    · refine zT_iff (by decide) (zT_iff (by decide) (zT_iff (by decide) (zT_iff (by decide) (zT_iff (by decide) (zT_iff (by decide) (zT_iff (by decide) ?_))))))
      refine zT_if (fun d0 => hT _ ⟨Or.inl rfl, zst_yes h c c1 _ (fun T hT => ?_)⟩) (fun d0 => hT _ ⟨Or.inl rfl, zst_yes h c c1 _ (fun T hT => ?_)⟩)
      · unfold zst_b
        refine zT_iff (by decide) (zT_iff (by decide) (zT_iff (by decide) (zT_iff (by decide) (zT_iff (by decide) (zT_iff (by decide) (zT_iff (by decide) (zT_ift d0 (hT _ ?_))))))))
        rw [(zS5_f S _).1 40 _ (by omega), za_eq, b1, b2]
      · unfold zst_b
        refine zT_iff (by decide) (zT_iff (by decide) (zT_iff (by decide) (zT_iff (by decide) (zT_iff (by decide) (zT_iff (by decide) (zT_iff (by decide) (zT_iff d0 (hT _ (zl_i ?_)))))))))
        rw [(zS5_f S _).2 40 _ (by omega)]; exact l5
  · rw [ev] at c1
    show zQ (zR 1) (zf_X11_state (zx_o 1 0 S) a1 a2)
    rw [zx_1, zst_u]; unfold zj_X11_state_51; rw [if_neg c, if_neg c1]; exact zst_no h a1 a2
