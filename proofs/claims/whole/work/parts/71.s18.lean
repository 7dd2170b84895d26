/-! a frame, decoded: what is heard -/
def zz_sy (r v : Nat → Int) (s : Int) : Nat → Int
  | 0 => s
  | n + 1 => zz_cut (zz_sy r v s n - zz_M (r (7 - n)) (v (7 - n)))
def zz_nv (r v : Nat → Int) (s : Int) (j : Nat) : Int := if j = 0 then zz_sy r v s 8 else zz_cut (v (j - 1) + zz_M (r (j - 1)) (zz_sy r v s (9 - j)))
theorem zz_sy_b {r v : Nat → Int} {s : Int} (hs : -32768 ≤ s ∧ s ≤ 32767) (n : Nat) : -32768 ≤ zz_sy r v s n ∧ zz_sy r v s n ≤ 32767 := by
  cases n with
  | zero => exact hs
  | succ n => exact zz_cut_b _
theorem zz_nv_b {r v : Nat → Int} {s : Int} (hs : -32768 ≤ s ∧ s ≤ 32767) (j : Nat) : -32768 ≤ zz_nv r v s j ∧ zz_nv r v s j ≤ 32767 := by
  unfold zz_nv; split
  · exact zz_sy_b hs 8
  · exact zz_cut_b _
/-- the low three bits -/
theorem za_and7 (x : Int32) : (x &&& (7 : Int32)).toInt = x.toInt % 8 := by
  have e := pk_and x (m := 7) 3 (by decide)
  have h : x.toBitVec.toNat < 4294967296 := x.toBitVec.isLt
  have hc : x.toInt = if 2 * x.toBitVec.toNat < 2 ^ 32 then (x.toBitVec.toNat : Int) else (x.toBitVec.toNat : Int) - ((2 ^ 32 : Nat) : Int) := BitVec.toInt_eq_toNat_cond x.toBitVec
  rw [e, za_nI (by omega), hc]
  split <;> omega
theorem za_m8 (x : Int32) : (x &&& (-8 : Int32)).toInt = x.toInt / 8 * 8 := by
  have e : x = (x &&& (-8 : Int32)) + (x &&& (7 : Int32)) := by
    apply Int32.toBitVec_inj.mp
    show x.toBitVec = (x.toBitVec &&& (-8 : Int32).toBitVec) + (x.toBitVec &&& (7 : Int32).toBitVec)
    rw [BitVec.add_eq_or_of_and_eq_zero]
    · rw [← BitVec.and_or_distrib_left, show (-8 : Int32).toBitVec ||| (7 : Int32).toBitVec = BitVec.allOnes 32 by decide, BitVec.and_allOnes]
    · rw [BitVec.and_assoc, BitVec.and_comm (-8 : Int32).toBitVec, BitVec.and_assoc, show (7 : Int32).toBitVec &&& (-8 : Int32).toBitVec = 0#32 by decide, BitVec.and_zero, BitVec.and_zero]
  have h7 := za_and7 x
  have hb := za_b x
  have e2 : x - (x &&& (7 : Int32)) = x &&& (-8 : Int32) := by
    have := congrArg (fun y => y - (x &&& (7 : Int32))) e
    simp only [Int32.add_sub_cancel] at this
    exact this
  rw [← e2, za_sub rfl h7 (by omega) (by omega)]
  omega
def zz_ec (e s : Int) : Int := zz_cut (s + zz_M e 28180)
def zz_ho (e : Int) : Int := zz_cut (2 * e) / 8 * 8
theorem zp_spoken (S : zs_T) {a1 : Int32} {x e : Int} (h1 : a1.toInt = x) (hx : -32768 ≤ x ∧ x ≤ 32767) {r v : Nat → Int} (hr : ∀ t, t < 8 → (S.1 34 t).toInt = r t) (nr : ∀ t, t < 8 → -32768 ≤ r t ∧ r t ≤ 32767) (hv : ∀ t, t < 8 → (S.1 30 t).toInt = v t) (nv : ∀ t, t < 8 → -32768 ≤ v t ∧ v t ≤ 32767) (he : (S.1 29 5).toInt = e) (ne : -32768 ≤ e ∧ e ≤ 32767) :
    zQ (fun o => o.1.toInt = zz_ho (zz_ec e (zz_sy r v x 8)) ∧ zF (fun k j => (k = 30 ∧ j < 9) ∨ (k = 29 ∧ j = 5)) zF_0 S o.2 ∧ (∀ t, t < 8 → (o.2.1 30 t).toInt = zz_nv r v x t) ∧ (o.2.1 29 5).toInt = zz_ec e (zz_sy r v x 8)) (zf_X0_spoken S a1) := by
  refine zQ.of (fun T hT => ?_)
  unfold zf_X0_spoken
  refine zT_b2 (P := fun o => o.2.toInt = zz_sy r v x 8 ∧ zF (fun k j => k = 30 ∧ j < 9) zF_0 S o.1 ∧ ∀ t, 1 ≤ t → t < 9 → (o.1.1 30 t).toInt = zz_nv r v x t) (zQ_wh3 _ 8 (fun n S1 s j => n ≤ 8 ∧ j.toInt = ((8 - n : Nat) : Int) ∧ s.toInt = zz_sy r v x n ∧ zF (fun k j => k = 30 ∧ j < 9) zF_0 S S1 ∧ (∀ t, 8 - n < t → t < 9 → (S1.1 30 t).toInt = zz_nv r v x t) ∧ ∀ t, t ≤ 8 - n → S1.1 30 t = S.1 30 t) _ ?_ 600 0 S a1 (8 : Int32) (by omega) (by omega) ⟨by omega, by decide, h1, zF.rf S, fun t t1 t2 => by omega, fun t _ => rfl⟩) (fun S8 v9 h8 => ?_)
  · intro n Sc s j hP rec T hT hR
    obtain ⟨hn, ej, es, hF, hW, hU⟩ := hP
    unfold zb_X0_spoken_5
    refine zT_if (fun c => hT _ ?_) (fun c => ?_)
    · rw [za_lt, ej, show (1 : Int32).toInt = 1 by decide] at c
      have : n = 8 := by omega
      subst this
      exact ⟨es, hF, fun t t1 t2 => hW t (by omega) t2⟩
    · rw [za_lt, ej, show (1 : Int32).toInt = 1 by decide] at c
      have ej1 : (j - (1 : Int32)).toInt = ((7 - n : Nat) : Int) := by have := za_sub ej (show (1 : Int32).toInt = 1 by decide) (by omega) (by omega); omega
      have x1 : (Sc.1 34 (7 - n)).toInt = r (7 - n) := by rw [hF.1 34 _ (by omega)]; exact hr _ (by omega)
      have x2 : (Sc.1 30 (7 - n)).toInt = v (7 - n) := by rw [hU _ (by omega)]; exact hv _ (by omega)
      have n1 := nr (7 - n) (by omega)
      have n2 := nv (7 - n) (by omega)
      have bs := zz_sy_b (r := r) (v := v) hx n
      have bs1 := zz_sy_b (r := r) (v := v) hx (n + 1)
      have b1 := zz_M_b (r (7 - n)) (v (7 - n))
      have b2 := zz_M_b (r (7 - n)) (zz_sy r v x (n + 1))
      refine zT_gi ej1 (by omega) ?_
      rw [za_pos ej1]
      refine zT_lt (fun v1 e1 => zT_gi ej1 (by omega) (zT_lt (fun v2 e2 => zT_lt (fun v3 e3 => zT_gi ej1 (by omega) (zT_lt (fun v4 e4 => zT_lt (fun v5 e5 => zT_gi ej (by omega) ?_)))))))
      rw [za_pos ej]
      refine zT_lt (fun S6 e6 => zT_lt (fun v7 e7 => ?_))
      have y1 : v1.toInt = r (7 - n) := by rw [e1]; exact x1
      have y2 : v2.toInt = zz_M (r (7 - n)) (v (7 - n)) := by rw [e2]; exact zp_rounded y1 x2 (by omega) (by omega) (by omega) (by omega)
      have y3 : v3.toInt = zz_sy r v x (n + 1) := by rw [e3]; exact zp_cut (za_sub es y2 (by omega) (by omega))
      have y4 : v4.toInt = zz_M (r (7 - n)) (zz_sy r v x (n + 1)) := by rw [e4]; exact zp_rounded y1 y3 (by omega) (by omega) (by omega) (by omega)
      have y5 : v5.toInt = zz_nv r v x (8 - n) := by
        rw [e5, zp_cut (za_add x2 y4 (by omega) (by omega))]
        unfold zz_nv; rw [if_neg (by omega), show 8 - n - 1 = 7 - n by omega, show 9 - (8 - n) = n + 1 by omega]
      refine hR _ _ _ (by omega) ⟨by omega, ?_, y3, ?_, fun t t1 t2 => ?_, fun t ht => ?_⟩
      · rw [e7, za_add ej (show (-1 : Int32).toInt = -1 by decide) (by omega) (by omega)]; omega
      · rw [e6]; exact hF.wi _ ⟨rfl, by omega⟩
      · rw [e6]
        by_cases ct : t = 8 - n
        · rw [ct, zs_ii]; exact y5
        · rw [zs_in _ _ (by omega)]; exact hW t (by omega) t2
      · rw [e6, zs_in _ _ (by omega)]; exact hU t (by omega)
  · dsimp only at h8
    obtain ⟨w1, w2, w3⟩ := h8
    have bs := zz_sy_b (r := r) (v := v) hx 8
    have be := zz_M_b e 28180
    refine zT_gi zc_c0 (by omega) ?_
    rw [za_pos zc_c0]
    refine zT_lt (fun S10 e10 => zT_lt (fun v11 e11 => zT_lt (fun v12 e12 => zT_lt (fun S13 e13 => zT_lt (fun v14 e14 => hT _ ?_)))))
    have x10 : (S10.1 29 5).toInt = e := by rw [e10, zs_in _ _ (by omega), w2.1 29 _ (by omega)]; exact he
    have y11 : v11.toInt = zz_M e 28180 := by rw [e11]; exact zp_rounded x10 (by decide) (by omega) (by omega) (by omega) (by omega)
    have y12 : v12.toInt = zz_ec e (zz_sy r v x 8) := by rw [e12]; exact zp_cut (za_add w1 y11 (by omega) (by omega))
    have x13 : (S13.1 29 5).toInt = zz_ec e (zz_sy r v x 8) := by rw [e13, zs_ii]; exact y12
    have bec : -32768 ≤ zz_ec e (zz_sy r v x 8) ∧ zz_ec e (zz_sy r v x 8) ≤ 32767 := zz_cut_b _
    have y14 : v14.toInt = zz_cut (2 * zz_ec e (zz_sy r v x 8)) := by rw [e14]; exact zp_cut (za_mul (by decide) x13 (by omega) (by omega))
    refine ⟨?_, ?_, fun t ht => ?_, x13⟩
    · show (v14 &&& (-8 : Int32)).toInt = _
      rw [za_m8, y14]; rfl
    · show zF _ _ S S13
      rw [e13]
      refine zF.wi ?_ _ (Or.inr ⟨rfl, rfl⟩)
      rw [e10]
      exact (w2.mo (fun k j h => Or.inl h) (fun _ _ h => h)).wi _ (Or.inl ⟨rfl, by omega⟩)
    · show (S13.1 30 t).toInt = _
      rw [e13, zs_in _ _ (by omega), e10]
      by_cases ct : t = 0
      · subst ct; rw [zs_ii]; unfold zz_nv; rw [if_pos rfl]; exact w1
      · rw [zs_in _ _ (by omega)]; exact w3 t (by omega) (by omega)
/-- the whole frame: the state behind n samples -/
def zz_vs (R : Nat → Nat → Int) (v x : Nat → Int) : Nat → Nat → Int
  | 0 => v
  | n + 1 => zz_nv (R n) (zz_vs R v x n) (x n)
def zz_es (R : Nat → Nat → Int) (v x : Nat → Int) (e : Int) : Nat → Int
  | 0 => e
  | n + 1 => zz_ec (zz_es R v x e n) (zz_sy (R n) (zz_vs R v x n) (x n) 8)
theorem zz_vs_b {R : Nat → Nat → Int} {v x : Nat → Int} (hv : ∀ j, j < 8 → -32768 ≤ v j ∧ v j ≤ 32767) : ∀ n, (∀ t, t < n → -32768 ≤ x t ∧ x t ≤ 32767) → ∀ j, j < 8 → -32768 ≤ zz_vs R v x n j ∧ zz_vs R v x n j ≤ 32767 := by
  intro n hx j hj
  cases n with
  | zero => exact hv j hj
  | succ n => exact zz_nv_b (hx n (by omega)) j
theorem zz_es_b {R : Nat → Nat → Int} {v x : Nat → Int} {e : Int} (he : -32768 ≤ e ∧ e ≤ 32767) (n : Nat) : -32768 ≤ zz_es R v x e n ∧ zz_es R v x e n ≤ 32767 := by
  cases n with
  | zero => exact he
  | succ n => exact zz_cut_b _
theorem zp_givein (S : zs_T) {f3 : Int32} {st : Nat} (hst : st < 4) (h3 : f3.toInt = st) {h g v x : Nat → Int} {e : Int} (hr : ∀ j, j < 8 → (S.1 34 j).toInt = zz_r st (h j) (g j)) (nv : ∀ j, j < 8 → -32768 ≤ v j ∧ v j ≤ 32767) (nx : ∀ t, t < 160 → -32768 ≤ x t ∧ x t ≤ 32767) (ne : -32768 ≤ e ∧ e ≤ 32767)
    (hx : ∀ t, t < 160 → (S.1 36 (120 + t)).toInt = x t) (hv : ∀ j, j < 8 → (S.1 30 j).toInt = zz_vs (zz_R h g) v x (zz_be st) j) (he : (S.1 29 5).toInt = zz_es (zz_R h g) v x e (zz_be st)) (ho : ∀ t, t < zz_be st → (S.1 4 t).toInt = zz_ho (zz_es (zz_R h g) v x e (t + 1))) :
    zQ (fun o => o.2 = nI (zz_be (st + 1)) ∧ zF (fun k j => k = 4 ∨ k = 30 ∨ (k = 29 ∧ j = 5)) zF_0 S o.1 ∧ (∀ j, j < 8 → (o.1.1 30 j).toInt = zz_vs (zz_R h g) v x (zz_be (st + 1)) j) ∧ (o.1.1 29 5).toInt = zz_es (zz_R h g) v x e (zz_be (st + 1)) ∧ ∀ t, t < zz_be (st + 1) → (o.1.1 4 t).toInt = zz_ho (zz_es (zz_R h g) v x e (t + 1))) (zl_2 (zb_X0_giveBack_20 f3) 600 S (nI (zz_be st))) := by
  obtain ⟨b1, b2⟩ := zz_be_2 st hst
  have b3 := zz_be_1 st hst
  refine zQ_for _ (zz_be (st + 1)) (fun n S1 => zz_be st ≤ n ∧ zF (fun k j => k = 4 ∨ k = 30 ∨ (k = 29 ∧ j = 5)) zF_0 S S1 ∧ (∀ j, j < 8 → (S1.1 30 j).toInt = zz_vs (zz_R h g) v x n j) ∧ (S1.1 29 5).toInt = zz_es (zz_R h g) v x e n ∧ ∀ t, t < n → (S1.1 4 t).toInt = zz_ho (zz_es (zz_R h g) v x e (t + 1))) _ ?_ ?_ 600 (zz_be st) S b1 (by omega) ⟨Nat.le_refl _, zF.rf S, hv, he, ho⟩
  · intro n Sc hn hP rec T hT
    obtain ⟨q0, hF, q1, q2, q3⟩ := hP
    have en : (nI n).toInt = n := za_nI (by omega)
    have es := zz_be_3 st hst n (by omega) q0 hn
    unfold zb_X0_giveBack_20
    refine zT_gi h3 hst ?_
    rw [za_pos h3]
    refine zT_iff (by rw [za_le, b3, en]; omega) (zT_lt (fun v2 e2 => ?_))
    have w2 : (v2 + nI n).toInt = ((120 + n : Nat) : Int) := by
      have y2 : v2.toInt = 120 := by rw [e2]; decide
      have := za_add y2 en (by omega) (by omega); omega
    refine zT_gi w2 (by omega) ?_
    rw [za_pos w2]
    refine zT_b2 (zp_spoken Sc (x := x n) (e := zz_es (zz_R h g) v x e n) (by rw [hF.1 36 _ (by omega)]; exact hx n (by omega)) (nx n (by omega)) (r := zz_R h g n) (v := zz_vs (zz_R h g) v x n) (fun j hj => by rw [hF.1 34 j (by omega), hr j hj]; unfold zz_R; rw [es]) (fun j _ => zz_R_b h g n j) q1 (zz_vs_b nv n (fun t ht => nx t (by omega))) q2 (zz_es_b ne n)) (fun v3 S4 h4 => ?_)
    obtain ⟨w3, w4, w5, w6⟩ := h4
    refine zT_gi en (by omega) ?_
    rw [za_pos en]
    refine zT_lt (fun S5 e5 => zT_lt (fun v6 e6 => ?_))
    rw [e6, zc_1]
    refine hT _ ⟨by omega, ?_, fun j hj => ?_, ?_, fun t ht => ?_⟩
    · rw [e5]; exact (hF.tr (w4.mo (fun k j h => by omega) (fun _ _ h => h))).wi _ (Or.inl rfl)
    · rw [e5, zs_in _ _ (by omega)]; exact w5 j hj
    · rw [e5, zs_in _ _ (by omega)]; exact w6
    · by_cases c : t = n
      · subst c; rw [e5, zs_ii]; exact w3
      · rw [e5, zs_in _ _ (by omega), w4.1 4 t (by omega)]; exact q3 t (by omega)
  · intro Sc hP rec T hT
    obtain ⟨q0, hF, q1, q2, q3⟩ := hP
    have en : (nI (zz_be (st + 1))).toInt = (zz_be (st + 1) : Nat) := za_nI (by omega)
    unfold zb_X0_giveBack_20
    refine zT_gi h3 hst ?_
    rw [za_pos h3]
    exact zT_ift (by rw [za_le, b3, en]; omega) (hT _ ⟨rfl, hF, q1, q2, q3⟩)
theorem zp_giveBack (S : zs_T) {h g v x : Nat → Int} {e : Int} (hh : ∀ j, j < 8 → (S.1 33 j).toInt = h j) (hg : ∀ j, j < 8 → (S.1 32 j).toInt = g j) (nh : ∀ t, t < 8 → -32768 ≤ h t ∧ h t ≤ 32767) (ng : ∀ t, t < 8 → -32768 ≤ g t ∧ g t ≤ 32767) (nv : ∀ j, j < 8 → -32768 ≤ v j ∧ v j ≤ 32767) (nx : ∀ t, t < 160 → -32768 ≤ x t ∧ x t ≤ 32767) (ne : -32768 ≤ e ∧ e ≤ 32767)
    (hx : ∀ t, t < 160 → (S.1 36 (120 + t)).toInt = x t) (hv : ∀ j, j < 8 → (S.1 30 j).toInt = v j) (he : (S.1 29 5).toInt = e) :
    zQ (fun S1 => zF (fun k j => k = 4 ∨ k = 30 ∨ k = 34 ∨ (k = 29 ∧ j = 5)) zF_0 S S1 ∧ (∀ j, j < 8 → (S1.1 30 j).toInt = zz_vs (zz_R h g) v x 160 j) ∧ (S1.1 29 5).toInt = zz_es (zz_R h g) v x e 160 ∧ ∀ t, t < 160 → (S1.1 4 t).toInt = zz_ho (zz_es (zz_R h g) v x e (t + 1))) (zf_X0_giveBack S) := by
  unfold zf_X0_giveBack
  refine zQ.of (fun T hT => zT_b1 (zQ_for3 _ 4 (fun st S1 k => k = nI (zz_be st) ∧ zF (fun k j => k = 4 ∨ k = 30 ∨ k = 34 ∨ (k = 29 ∧ j = 5)) zF_0 S S1 ∧ (∀ j, j < 8 → (S1.1 30 j).toInt = zz_vs (zz_R h g) v x (zz_be st) j) ∧ (S1.1 29 5).toInt = zz_es (zz_R h g) v x e (zz_be st) ∧ ∀ t, t < zz_be st → (S1.1 4 t).toInt = zz_ho (zz_es (zz_R h g) v x e (t + 1))) (fun S1 => zF (fun k j => k = 4 ∨ k = 30 ∨ k = 34 ∨ (k = 29 ∧ j = 5)) zF_0 S S1 ∧ (∀ j, j < 8 → (S1.1 30 j).toInt = zz_vs (zz_R h g) v x 160 j) ∧ (S1.1 29 5).toInt = zz_es (zz_R h g) v x e 160 ∧ ∀ t, t < 160 → (S1.1 4 t).toInt = zz_ho (zz_es (zz_R h g) v x e (t + 1))) ?_ ?_ 600 0 S (0 : Int32) (by omega) (by omega) ⟨rfl, zF.rf S, hv, he, fun t ht => absurd ht (Nat.not_lt_zero t)⟩) (fun S1 h1 => hT S1 h1))
  · intro st Sc k hst hP rec T hT
    obtain ⟨ek, hF, q1, q2, q3⟩ := hP
    have es : (nI st).toInt = st := za_nI (by omega)
    unfold zb_X0_giveBack_4
    refine zT_iff (by rw [za_le, es, show (4 : Int32).toInt = 4 by decide]; omega) (zT_b1 (zp_shape 33 32 34 Sc (by decide) (by decide) es (h := h) (g := g) (fun t ht => by rw [hF.1 33 t (by omega)]; exact hh t ht) (fun t ht => by rw [hF.1 32 t (by omega)]; exact hg t ht) nh ng) (fun S1 h1 => ?_))
    rw [ek]
    refine zT_b2 (zp_givein S1 hst es (h := h) (g := g) (v := v) (x := x) (e := e) h1.2 nv nx ne (fun t ht => by rw [h1.1.1 36 _ (by omega), hF.1 36 _ (by omega)]; exact hx t ht) (fun j hj => by rw [h1.1.1 30 j (by omega)]; exact q1 j hj) (by rw [h1.1.1 29 _ (by omega)]; exact q2) (fun t ht => by rw [h1.1.1 4 _ (by omega)]; exact q3 t ht)) (fun S7 v8 h7 => zT_lt (fun v9 e9 => ?_))
    obtain ⟨w1, w2, w3, w4, w5⟩ := h7
    rw [e9, zc_1]
    refine hT _ _ ⟨w1, ?_, w3, w4, w5⟩
    exact (hF.tr (h1.1.mo (fun k j h => by omega) (fun _ _ h => h))).tr (w2.mo (fun k j h => by omega) (fun _ _ h => h))
  · intro Sc k hP rec T hT
    obtain ⟨ek, hF, q1, q2, q3⟩ := hP
    unfold zb_X0_giveBack_4
    exact zT_ift (by decide) (hT _ ⟨hF, q1, q2, q3⟩)
/-! the reference's -/
theorem zq_spoken (S : zs_T) {a1 : Int64} {x : Int} (h1 : a1.toInt = x) (hx : -32768 ≤ x ∧ x ≤ 32767) {r v : Nat → Int} (hr : ∀ t, t < 8 → (S.2 56 (t + 1)).toInt = r t) (nr : ∀ t, t < 8 → -32768 ≤ r t ∧ r t ≤ 32767) (hv : ∀ t, t < 8 → (S.2 47 t).toInt = v t) (nv : ∀ t, t < 8 → -32768 ≤ v t ∧ v t ≤ 32767) :
    zQ (fun o => o.2.toInt = zz_sy r v x 8 ∧ zF zF_0 (fun k j => k = 47 ∧ j < 9) S o.1 ∧ ∀ t, 1 ≤ t → t < 9 → (o.1.2 47 t).toInt = zz_nv r v x t) (zl_3 zb_X11_decode_319 600 S a1 (8 : Int32)) := by
  refine zQ_wh3 _ 8 (fun n S1 s j => n ≤ 8 ∧ j.toInt = ((8 - n : Nat) : Int) ∧ s.toInt = zz_sy r v x n ∧ zF zF_0 (fun k j => k = 47 ∧ j < 9) S S1 ∧ (∀ t, 8 - n < t → t < 9 → (S1.2 47 t).toInt = zz_nv r v x t) ∧ ∀ t, t ≤ 8 - n → S1.2 47 t = S.2 47 t) _ ?_ 600 0 S a1 (8 : Int32) (by omega) (by omega) ⟨by omega, by decide, h1, zF.rf S, fun t t1 t2 => by omega, fun t _ => rfl⟩
  intro n Sc s j hP rec T hT hR
  obtain ⟨hn, ej, es, hF, hW, hU⟩ := hP
  unfold zb_X11_decode_319
  refine zT_if (fun c => hT _ ?_) (fun c => ?_)
  · rw [za_le, ej, show (0 : Int32).toInt = 0 by decide] at c
    have : n = 8 := by omega
    subst this
    exact ⟨es, hF, fun t t1 t2 => hW t (by omega) t2⟩
  · rw [za_le, ej, show (0 : Int32).toInt = 0 by decide] at c
    have ej1 : (j - (1 : Int32)).toInt = ((7 - n : Nat) : Int) := by have := za_sub ej (show (1 : Int32).toInt = 1 by decide) (by omega) (by omega); omega
    have x1 : (Sc.2 56 (8 - n)).toInt = r (7 - n) := by
      have := hr (7 - n) (by omega)
      rw [show 7 - n + 1 = 8 - n by omega] at this
      rw [hF.2 56 _ (by omega)]; exact this
    have x2 : (Sc.2 47 (7 - n)).toInt = v (7 - n) := by rw [hU _ (by omega)]; exact hv _ (by omega)
    have n1 := nr (7 - n) (by omega)
    have n2 := nv (7 - n) (by omega)
    have bs := zz_sy_b (r := r) (v := v) hx n
    have bs1 := zz_sy_b (r := r) (v := v) hx (n + 1)
    have b1 := zz_M_b (r (7 - n)) (v (7 - n))
    have b2 := zz_M_b (r (7 - n)) (zz_sy r v x (n + 1))
    refine zT_gi ej (by omega) (zT_gi ej1 (by omega) ?_)
    rw [za_pos ej1, za_pos ej]
    refine zT_lt (fun v2 e2 => zT_lt (fun v3 e3 => zT_gi ej1 (by omega) (zT_gi ej (by omega) (zT_lt (fun v4 e4 => zT_lt (fun v5 e5 => zT_gi ej (by omega) (zT_lt (fun S6 e6 => zT_lt (fun v7 e7 => ?_)))))))))
    have y2 : v2.toInt = zz_M (r (7 - n)) (v (7 - n)) := by rw [e2]; exact zq_rounded x1 x2 (by omega) (by omega) (by omega) (by omega)
    have y3 : v3.toInt = zz_sy r v x (n + 1) := by rw [e3]; exact zq_cut (zb_sub es y2 (by omega) (by omega))
    have y4 : v4.toInt = zz_M (r (7 - n)) (zz_sy r v x (n + 1)) := by rw [e4]; exact zq_rounded x1 y3 (by omega) (by omega) (by omega) (by omega)
    have y5 : v5.toInt = zz_nv r v x (8 - n) := by
      rw [e5, zq_cut (zb_add x2 y4 (by omega) (by omega))]
      unfold zz_nv; rw [if_neg (by omega), show 8 - n - 1 = 7 - n by omega, show 9 - (8 - n) = n + 1 by omega]
    refine hR _ _ _ (by omega) ⟨by omega, ?_, y3, ?_, fun t t1 t2 => ?_, fun t ht => ?_⟩
    · rw [e7, za_add ej (show (-1 : Int32).toInt = -1 by decide) (by omega) (by omega)]; omega
    · rw [e6]; exact hF.wl _ ⟨rfl, by omega⟩
    · rw [e6]
      by_cases ct : t = 8 - n
      · rw [ct, zs_ll]; exact y5
      · rw [zs_ln _ _ (by omega)]; exact hW t (by omega) t2
    · rw [e6, zs_ln _ _ (by omega)]; exact hU t (by omega)
theorem zq_giveBack (S : zs_T) {h g v x : Nat → Int} {e : Int} (hh : ∀ j, j < 8 → (S.2 45 (8 + j)).toInt = h j) (hg : ∀ j, j < 8 → (S.2 57 j).toInt = g j) (nh : ∀ t, t < 8 → -32768 ≤ h t ∧ h t ≤ 32767) (ng : ∀ t, t < 8 → -32768 ≤ g t ∧ g t ≤ 32767) (nv : ∀ j, j < 8 → -32768 ≤ v j ∧ v j ≤ 32767) (nx : ∀ t, t < 160 → -32768 ≤ x t ∧ x t ≤ 32767) (ne : -32768 ≤ e ∧ e ≤ 32767)
    (hx : ∀ t, t < 160 → (S.2 48 (400 + t)).toInt = x t) (hv : ∀ j, j < 8 → (S.2 47 j).toInt = v j) (he : (S.2 40 17).toInt = e) :
    zQ (fun S1 => zF (fun k j => k = 44 ∧ j < 160) (fun k j => k = 47 ∨ k = 56 ∨ (k = 40 ∧ j = 17)) S S1 ∧ (∀ j, j < 8 → (S1.2 47 j).toInt = zz_vs (zz_R h g) v x 160 j) ∧ (S1.2 40 17).toInt = zz_es (zz_R h g) v x e 160 ∧ ∀ t, t < 160 → (S1.1 44 t).toInt = zz_ho (zz_es (zz_R h g) v x e (t + 1))) (zl_2 zb_X11_decode_267 600 S (0 : Int32)) := by
  refine zQ_for _ 160 (fun n S1 => zF (fun k j => k = 44 ∧ j < 160) (fun k j => k = 47 ∨ k = 56 ∨ (k = 40 ∧ j = 17)) S S1 ∧ (∀ j, j < 8 → (S1.2 47 j).toInt = zz_vs (zz_R h g) v x n j) ∧ (S1.2 40 17).toInt = zz_es (zz_R h g) v x e n ∧ (∀ t, t < n → (S1.1 44 t).toInt = zz_ho (zz_es (zz_R h g) v x e (t + 1))) ∧ (1 ≤ n → ∀ j, j < 8 → (S1.2 56 (j + 1)).toInt = zz_R h g (n - 1) j)) _ ?_ ?_ 600 0 S (by omega) (by omega) ⟨zF.rf S, hv, he, fun t ht => absurd ht (Nat.not_lt_zero t), fun h1 => absurd h1 (by omega)⟩
  · intro n S0 hn hP rec T hT
    obtain ⟨hF0, p1, p2, p3, p4⟩ := hP
    have en : (nI n).toInt = n := za_nI (by omega)
    have k303 : ∀ Sc, zF (fun k j => k = 44 ∧ j < 160) (fun k j => k = 47 ∨ k = 56 ∨ (k = 40 ∧ j = 17)) S Sc → (∀ j, j < 8 → (Sc.2 47 j).toInt = zz_vs (zz_R h g) v x n j) → (Sc.2 40 17).toInt = zz_es (zz_R h g) v x e n → (∀ t, t < n → (Sc.1 44 t).toInt = zz_ho (zz_es (zz_R h g) v x e (t + 1))) → (∀ j, j < 8 → (Sc.2 56 (j + 1)).toInt = zz_R h g n j) → T (zj_X11_decode_303 rec Sc (nI n)) := by
      intro Sc hF q1 q2 q3 q4
      have e4 : ((400 : Int32) + nI n).toInt = ((400 + n : Nat) : Int) := by have := za_add (show (400 : Int32).toInt = 400 by decide) en (by omega) (by omega); omega
      have bs := zz_sy_b (r := zz_R h g n) (v := zz_vs (zz_R h g) v x n) (nx n hn) 8
      have bes := zz_es_b (R := zz_R h g) (v := v) (x := x) ne n
      have bM := zz_M_b (zz_es (zz_R h g) v x e n) 28180
      unfold zj_X11_decode_303
      refine zT_gi e4 (by omega) ?_
      rw [za_pos e4]
      refine zT_lt (fun v26 e26 => zT_b2 (zq_spoken Sc (a1 := v26) (x := x n) (by rw [e26, hF.2 48 _ (by omega)]; exact hx n hn) (nx n hn) (r := zz_R h g n) (v := zz_vs (zz_R h g) v x n) q4 (fun j _ => zz_R_b h g n j) q1 (zz_vs_b nv n (fun t ht => nx t (by omega)))) (fun S33 v34 h33 => ?_))
      dsimp only at h33
      obtain ⟨w1, w2, w3⟩ := h33
      refine zT_gi zc_c0 (by omega) ?_
      rw [za_pos zc_c0]
      refine zT_lt (fun S35 e35 => zT_lt (fun v36 e36 => zT_lt (fun v37 e37 => zT_lt (fun S38 e38 => zT_lt (fun v39 e39 => zT_gi en (by omega) ?_)))))
      rw [za_pos en]
      refine zT_lt (fun S40 e40 => zT_lt (fun v41 e41 => ?_))
      have x35 : (S35.2 40 17).toInt = zz_es (zz_R h g) v x e n := by rw [e35, zs_ln _ _ (by omega), w2.2 40 _ (by omega)]; exact q2
      have y36 : v36.toInt = zz_M (zz_es (zz_R h g) v x e n) 28180 := by rw [e36]; exact zq_rounded x35 (by decide) (by omega) (by omega) (by omega) (by omega)
      have y37 : v37.toInt = zz_es (zz_R h g) v x e (n + 1) := by rw [e37]; exact zq_cut (zb_add w1 y36 (by omega) (by omega))
      have x38 : (S38.2 40 17).toInt = zz_es (zz_R h g) v x e (n + 1) := by rw [e38, zs_ll]; exact y37
      have bes1 := zz_es_b (R := zz_R h g) (v := v) (x := x) ne (n + 1)
      have y39 : v39.toInt = zz_cut (2 * zz_es (zz_R h g) v x e (n + 1)) := by rw [e39]; exact zq_cut (zb_mul (by decide) x38 (by omega) (by omega))
      have bc := zz_cut_b (2 * zz_es (zz_R h g) v x e (n + 1))
      rw [e41, zc_1]
      refine hT _ ⟨?_, fun j hj => ?_, ?_, fun t ht => ?_, fun _ j hj => ?_⟩
      · rw [e40]
        refine zF.wi ?_ _ ⟨rfl, hn⟩
        rw [e38, e35]
        exact (((hF.tr (w2.mo (fun k j h => absurd h (fun z => z)) (fun k j h => Or.inl h.1))).wl _ (Or.inl rfl)).wl _ (Or.inr (Or.inr ⟨rfl, rfl⟩)))
      · show (S40.2 47 j).toInt = _
        rw [e40]
        show (S38.2 47 j).toInt = _
        rw [e38, zs_ln _ _ (by omega), e35]
        by_cases cj : j = 0
        · subst cj; rw [zs_ll]; exact w1
        · rw [zs_ln _ _ (by omega)]; exact w3 j (by omega) (by omega)
      · rw [e40]; exact x38
      · by_cases ct : t = n
        · subst ct; rw [e40, zs_ii]
          exact za_mul (za_l2i (zb_sr (n := 3) 3 8 y39 (by decide) (by decide) (by decide)) (by omega) (by omega)) (by decide) (by omega) (by omega)
        · rw [e40, zs_in _ _ (by omega), e38]
          show (S35.1 44 t).toInt = _
          rw [e35]
          show (S33.1 44 t).toInt = _
          rw [w2.1 44 t (fun z => z)]; exact q3 t (by omega)
      · rw [e40]
        show (S38.2 56 (j + 1)).toInt = _
        rw [e38, zs_ln _ _ (by omega), e35, zs_ln _ _ (by omega), w2.2 56 _ (by omega)]; exact q4 j hj
    have k296 : T (zj_X11_decode_296 rec S0 (nI n)) := by
      unfold zj_X11_decode_296
      refine zT_b1 (zq_makesR S0 en (a2 := 8) (q := 8) (by decide) (by omega) (h := h) (g := g) (fun t ht => by rw [hF0.2 45 _ (by omega)]; exact hh t ht) (fun t ht => by rw [hF0.2 57 t (by omega)]; exact hg t ht) nh ng) (fun S1 h1 => ?_)
      exact k303 S1 (hF0.tr (h1.1.mo (fun k j h => absurd h (fun z => z)) (fun k j h => Or.inr (Or.inl h.1)))) (fun j hj => by rw [h1.1.2 47 _ (by omega)]; exact p1 j hj) (by rw [h1.1.2 40 _ (by omega)]; exact p2) (fun t ht => by rw [h1.1.1 44 t (fun z => z)]; exact p3 t ht) h1.2
    unfold zb_X11_decode_267
    refine zT_iff (by rw [za_le, en, show (160 : Int32).toInt = 160 by decide]; omega) (zT_if (fun _ => k296) (fun c0 => zT_if (fun _ => k296) (fun c1 => zT_if (fun _ => k296) (fun c2 => zT_if (fun _ => k296) (fun c3 => ?_)))))
    rw [za_eq, en, show (0 : Int32).toInt = 0 by decide] at c0
    rw [za_eq, en, show (13 : Int32).toInt = 13 by decide] at c1
    rw [za_eq, en, show (27 : Int32).toInt = 27 by decide] at c2
    rw [za_eq, en, show (40 : Int32).toInt = 40 by decide] at c3
    have es : zz_stch (n - 1) = zz_stch n := by unfold zz_stch; split <;> split <;> (try split) <;> (try split) <;> (try split) <;> (try split) <;> omega
    exact k303 S0 hF0 p1 p2 p3 (fun j hj => by rw [p4 (by omega) j hj]; unfold zz_R; rw [es])
  · intro Sc hP rec T hT
    obtain ⟨hF0, p1, p2, p3, p4⟩ := hP
    unfold zb_X11_decode_267
    exact zT_ift (by decide) (hT _ ⟨hF0, p1, p2, p3⟩)
/-! the whole decoding, once the parameters stand -/
def zz_Dg (P : Nat → Int) (j : Nat) : Int := zz_g j (P j)
def zz_dec (P h v c0 : Nat → Int) (b0 : Nat) (e : Int) : Prop := zz_pok P ∧ (40 ≤ b0 ∧ b0 ≤ 120) ∧ (∀ j, j < 8 → -32768 ≤ h j ∧ h j ≤ 32767) ∧ (∀ j, j < 8 → -32768 ≤ v j ∧ v j ≤ 32767) ∧ (∀ t, t < 120 → -32768 ≤ c0 t ∧ c0 t ≤ 32767) ∧ (-32768 ≤ e ∧ e ≤ 32767)
def zz_Dx (P c0 : Nat → Int) (b0 t : Nat) : Int := zz_dc P b0 c0 4 (120 + t)
theorem zp_speak (S : zs_T) {P h v c0 : Nat → Int} {b0 : Nat} {e : Int} (hn : zz_dec P h v c0 b0 e) (eP : ∀ j, j < 76 → (S.1 3 j).toInt = P j) (eb : (S.1 29 4).toInt = (b0 : Int)) (hc : ∀ t, t < 120 → (S.1 36 t).toInt = c0 t) (hh : ∀ j, j < 8 → (S.1 32 j).toInt = h j) (hv : ∀ j, j < 8 → (S.1 30 j).toInt = v j) (he : (S.1 29 5).toInt = e) :
    zQ (fun S1 => zF (fun k j => k = 4 ∨ (k = 29 ∧ (j = 4 ∨ j = 5 ∨ j = 6)) ∨ (30 ≤ k ∧ k ≤ 39)) zF_0 S S1 ∧ (S1.1 29 4).toInt = ((zz_db P b0 4 : Nat) : Int) ∧ (S1.1 29 5).toInt = zz_es (zz_R h (zz_Dg P)) v (zz_Dx P c0 b0) e 160 ∧ (∀ j, j < 8 → (S1.1 32 j).toInt = zz_Dg P j) ∧ (∀ j, j < 8 → (S1.1 30 j).toInt = zz_vs (zz_R h (zz_Dg P)) v (zz_Dx P c0 b0) 160 j) ∧ (∀ t, t < 120 → (S1.1 36 t).toInt = zz_dc P b0 c0 4 (160 + t)) ∧ (∀ t, t < 160 → (S1.1 4 t).toInt = zz_ho (zz_es (zz_R h (zz_Dg P)) v (zz_Dx P c0 b0) e (t + 1))) ∧ S1.1 29 6 = S.1 29 6 + (1 : Int32)) (zf_X0_speak S) := by
  obtain ⟨nP, nb, nh, nv, nc, ne⟩ := hn
  have nDx : ∀ t, t < 160 → -32768 ≤ zz_Dx P c0 b0 t ∧ zz_Dx P c0 b0 t ≤ 32767 := fun t ht => zz_dc_b nc 4 _ (by omega)
  refine zQ.of (fun T hT => ?_)
  unfold zf_X0_speak
  refine zT_b1 (zp_dparts S nP nb eP eb hc nc) (fun S3 h3 => ?_)
  obtain ⟨f3, a3, b3⟩ := h3
  refine zT_b1 (zp_learn 32 33 S3 (by decide) (by decide) (by decide) (p := P) (g := h) (fun t ht => by rw [f3.1 3 _ (by omega)]; exact eP t (by omega)) (fun t ht => by have := nP.1 t ht; omega) (fun t ht => by rw [f3.1 32 _ (by omega)]; exact hh t ht)) (fun S4 h4 => ?_)
  obtain ⟨f4, a4, b4⟩ := h4
  refine zT_b1 (zp_giveBack S4 (h := h) (g := zz_Dg P) (v := v) (x := zz_Dx P c0 b0) (e := e) a4 b4 nh (fun t _ => zz_cut_b _) nv nDx ne (fun t ht => by rw [f4.1 36 _ (by omega)]; exact b3 _ (by omega)) (fun j hj => by rw [f4.1 30 _ (by omega), f3.1 30 _ (by omega)]; exact hv j hj) (by rw [f4.1 29 _ (by omega), f3.1 29 _ (by omega)]; exact he)) (fun S5 h5 => ?_)
  obtain ⟨f5, a5, b5, c5⟩ := h5
  refine zT_b1 (zp_endFrame 36 S5) (fun S6 h6 => zT_lt (fun S7 e7 => hT _ ⟨?_, ?_, ?_, fun j hj => ?_, fun j hj => ?_, fun t ht => ?_, fun t ht => ?_, ?_⟩))
  · rw [e7]
    refine zF.wi ?_ _ (Or.inr (Or.inl ⟨rfl, by omega⟩))
    exact (((f3.mo (fun k j h => by omega) (fun _ _ h => h)).tr (f4.mo (fun k j h => by omega) (fun _ _ h => h))).tr (f5.mo (fun k j h => by omega) (fun _ _ h => h))).tr (h6.1.mo (fun k j h => by omega) (fun _ _ h => h))
  · rw [e7, zs_in _ _ (by omega), h6.1.1 29 _ (by omega), f5.1 29 _ (by omega), f4.1 29 _ (by omega)]; exact a3
  · rw [e7, zs_in _ _ (by omega), h6.1.1 29 _ (by omega)]; exact b5
  · rw [e7, zs_in _ _ (by omega), h6.1.1 32 _ (by omega), f5.1 32 _ (by omega)]; exact b4 j hj
  · rw [e7, zs_in _ _ (by omega), h6.1.1 30 _ (by omega)]; exact a5 j hj
  · rw [e7, zs_in _ _ (by omega), h6.2 t ht, f5.1 36 _ (by omega), f4.1 36 _ (by omega)]; exact b3 _ (by omega)
  · rw [e7, zs_in _ _ (by omega), h6.1.1 4 _ (by omega)]; exact c5 t ht
  · rw [e7, zs_ii, h6.1.1 29 _ (by omega), f5.1 29 _ (by omega), f4.1 29 _ (by omega), f3.1 29 _ (by omega)]
