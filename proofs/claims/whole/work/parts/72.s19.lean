/-! bits -/
def zz_nb (i : Nat) : Nat := (zf_X11_bits (nI i)).toNatClampNeg
theorem zp_nb : ∀ i, i < 76 → zf_X10_bitsOf (nI i) = some (nI (zz_nb i)) := by decide +kernel
theorem zq_nb : ∀ i, i < 76 → zf_X11_bits (nI i) = nI (zz_nb i) := by decide +kernel
theorem zz_nb_b : ∀ i, i < 76 → 2 ≤ zz_nb i ∧ zz_nb i ≤ 7 := by decide +kernel
def zz_pla : Nat → Nat
  | 0 => 4
  | i + 1 => zz_pla i + zz_nb i
theorem zz_pla_b : ∀ i, i < 76 → zz_pla i + zz_nb i ≤ 264 := by decide +kernel
def zz_bi (x : Int32) (b : Nat) : Nat := ((x >>> (nI b &&& 31)) &&& (1 : Int32)).toNatClampNeg
theorem zz_bi_s (x : Int32) (b : Nat) : ((x >>> (nI b &&& 31)) &&& (1 : Int32)) = nI (zz_bi x b) ∧ zz_bi x b ≤ 1 := by
  obtain ⟨j, hj, e⟩ := pk_andE (x >>> (nI b &&& 31)) (m := 1) 1 (by decide)
  have : zz_bi x b = j := by unfold zz_bi; rw [e]; exact zc_p (by omega)
  rw [this]
  exact ⟨e, by omega⟩
theorem za_or (a b : Nat) : nI a ||| nI b = nI (a ||| b) := by
  apply Int32.toBitVec_inj.mp
  show BitVec.ofNat 32 a ||| BitVec.ofNat 32 b = BitVec.ofNat 32 (a ||| b)
  apply BitVec.eq_of_toNat_eq
  simp [Nat.or_mod_two_pow]
theorem zz_k1 : ∀ m, m < 8 → ∀ o, o < 2 → ∀ b, b < 256 → b % 2 ^ (8 - m) = 0 → b + o * 2 ^ (7 - m) < 256 ∧ (b + o * 2 ^ (7 - m)) % 2 ^ (7 - m) = 0 ∧ b ||| o * 2 ^ (7 - m) = b + o * 2 ^ (7 - m) := by decide +kernel
def zz_s1 (one : Nat) (st : Nat × (Nat → Nat)) : Nat × (Nat → Nat) := (st.1 + 1, fun k => if k = st.1 / 8 then st.2 k + one * 2 ^ (7 - st.1 % 8) else st.2 k)
def zz_gd1 (st : Nat × (Nat → Nat)) : Prop := (∀ k, st.2 k < 256) ∧ (∀ k, st.1 / 8 < k → st.2 k = 0) ∧ st.2 (st.1 / 8) % 2 ^ (8 - st.1 % 8) = 0
theorem zz_gd_s {one : Nat} {st : Nat × (Nat → Nat)} (h : zz_gd1 st) (ho : one ≤ 1) : zz_gd1 (zz_s1 one st) := by
  obtain ⟨h1, h2, h3⟩ := h
  obtain ⟨k1, k2, -⟩ := zz_k1 (st.1 % 8) (Nat.mod_lt _ (by omega)) one (by omega) (st.2 (st.1 / 8)) (h1 _) h3
  refine ⟨fun k => ?_, fun k hk => ?_, ?_⟩
  · show (if k = st.1 / 8 then _ else _) < 256
    by_cases c : k = st.1 / 8
    · rw [if_pos c, c]; exact k1
    · rw [if_neg c]; exact h1 k
  · have hk : (st.1 + 1) / 8 < k := hk
    show (if k = st.1 / 8 then _ else _) = 0
    rw [if_neg (by omega)]
    exact h2 k (by omega)
  · show (if (st.1 + 1) / 8 = st.1 / 8 then st.2 ((st.1 + 1) / 8) + one * 2 ^ (7 - st.1 % 8) else st.2 ((st.1 + 1) / 8)) % 2 ^ (8 - (st.1 + 1) % 8) = 0
    by_cases c : (st.1 + 1) / 8 = st.1 / 8
    · rw [if_pos c, c, show 8 - (st.1 + 1) % 8 = 7 - st.1 % 8 by omega]; exact k2
    · rw [if_neg c, h2 _ (by omega)]; exact Nat.zero_mod _
def zz_inb (β : Nat → Nat) (nb : Nat) (st : Nat × (Nat → Nat)) : Nat → Nat × (Nat → Nat)
  | 0 => st
  | t + 1 => zz_s1 (β (nb - 1 - t)) (zz_inb β nb st t)
theorem zz_inb_1 (β : Nat → Nat) (nb : Nat) (st : Nat × (Nat → Nat)) : ∀ t, (zz_inb β nb st t).1 = st.1 + t := by
  intro t
  induction t with
  | zero => rfl
  | succ t ih => show (zz_inb β nb st t).1 + 1 = _; rw [ih]; omega
theorem zz_inb_g {β : Nat → Nat} (hβ : ∀ b, β b ≤ 1) (nb : Nat) {st : Nat × (Nat → Nat)} (h : zz_gd1 st) : ∀ t, zz_gd1 (zz_inb β nb st t) := by
  intro t
  induction t with
  | zero => exact h
  | succ t ih => exact zz_gd_s ih (hβ _)
def zz_outb (β : Nat → Nat → Nat) (st : Nat × (Nat → Nat)) : Nat → Nat × (Nat → Nat)
  | 0 => st
  | i + 1 => zz_inb (β i) (zz_nb i) (zz_outb β st i) (zz_nb i)
theorem zz_outb_1 (β : Nat → Nat → Nat) {st : Nat × (Nat → Nat)} (h : st.1 = 4) : ∀ i, (zz_outb β st i).1 = zz_pla i := by
  intro i
  induction i with
  | zero => exact h
  | succ i ih => show (zz_inb _ _ _ _).1 = _; rw [zz_inb_1, ih]; rfl
theorem zz_outb_g {β : Nat → Nat → Nat} (hβ : ∀ i b, β i b ≤ 1) {st : Nat × (Nat → Nat)} (h : zz_gd1 st) : ∀ i, zz_gd1 (zz_outb β st i) := by
  intro i
  induction i with
  | zero => exact h
  | succ i ih => exact zz_inb_g (hβ i) _ ih _
def zz_st0 : Nat × (Nat → Nat) := (4, fun k => if k = 0 then 208 else 0)
theorem zz_st0_g : zz_gd1 zz_st0 := by
  refine ⟨fun k => ?_, fun k hk => ?_, ?_⟩
  · show (if k = 0 then 208 else 0) < 256
    split <;> omega
  · show (if k = 0 then 208 else 0) = 0
    have hk : 4 / 8 < k := hk
    rw [if_neg (by omega)]
  · decide
def zz_pack (p : Nat → Int32) : Nat → Nat := (zz_outb (fun i b => zz_bi (p i) b) zz_st0 76).2
theorem zz_pack_b (p : Nat → Int32) (k : Nat) : zz_pack p k < 256 := by
  have h := zz_outb_g (β := fun i b => zz_bi (p i) b) (fun i b => (zz_bi_s (p i) b).2) zz_st0_g 76
  unfold zz_pack
  exact h.1 k
theorem za_i1 {n : Nat} (h : n < 2000) : (nI n).toInt = n := za_nI (by omega)
/-! the class's packing -/
theorem zp_pin (S : zs_T) {i : Nat} (hi : i < 76) {st : Nat × (Nat → Nat)} (hg : zz_gd1 st) (hst : st.1 + zz_nb i ≤ 264) (hB : ∀ k, k < 33 → S.1 2 k = nI (st.2 k)) {x3 : Int32} (h3 : x3 = nI (zz_nb i) - (1 : Int32)) :
    zQ (fun o => o.2 = nI (st.1 + zz_nb i) ∧ zF (fun k j => k = 2 ∧ j < 33) zF_0 S o.1 ∧ ∀ k, k < 33 → o.1.1 2 k = nI ((zz_inb (fun b => zz_bi (S.1 3 i) b) (zz_nb i) st (zz_nb i)).2 k)) (zl_3 (zb_X10_pack_34 (nI i)) 600 S (nI st.1) x3) := by
  have hnb := zz_nb_b i hi
  have ei := za_i1 (n := i) (by omega)
  have e3 : x3.toInt = (zz_nb i : Int) - 1 := by rw [h3]; exact za_sub (za_i1 (by omega)) (by decide) (by omega) (by omega)
  refine zQ_wh3 _ (zz_nb i) (fun t S1 x1 x3 => t ≤ zz_nb i ∧ x1 = nI (st.1 + t) ∧ x3.toInt = (zz_nb i : Int) - 1 - t ∧ zF (fun k j => k = 2 ∧ j < 33) zF_0 S S1 ∧ ∀ k, k < 33 → S1.1 2 k = nI ((zz_inb (fun b => zz_bi (S.1 3 i) b) (zz_nb i) st t).2 k)) _ ?_ 600 0 S (nI st.1) x3 (by omega) (by omega) ⟨by omega, rfl, by rw [e3]; omega, zF.rf S, hB⟩
  intro t Sc x1 x3 hP rec T hT hR
  obtain ⟨ht, e1, e3, hF, hB⟩ := hP
  unfold zb_X10_pack_34
  refine zT_if (fun c => hT _ ?_) (fun c => ?_)
  · rw [za_lt, e3, show (0 : Int32).toInt = 0 by decide] at c
    have : t = zz_nb i := by omega
    subst this
    exact ⟨e1, hF, hB⟩
  · rw [za_lt, e3, show (0 : Int32).toInt = 0 by decide] at c
    have hg1 := zz_inb_g (β := fun b => zz_bi (S.1 3 i) b) (fun b => (zz_bi_s (S.1 3 i) b).2) (zz_nb i) hg t
    have hp1 := zz_inb_1 (fun b => zz_bi (S.1 3 i) b) (zz_nb i) st t
    have w3 : x3 = nI (zz_nb i - 1 - t) := za_of (by omega)
    obtain ⟨o1, o2⟩ := zz_bi_s (S.1 3 i) (zz_nb i - 1 - t)
    have e1' : x1.toInt = ((st.1 + t : Nat) : Int) := by rw [e1]; exact za_i1 (by omega)
    refine zT_gi ei hi ?_
    rw [za_pos ei, hF.1 3 _ (by omega), w3]
    refine zT_lt (fun v5 e5 => zT_lt (fun v6 e6 => ?_))
    have y5 : v5 = nI (zz_bi (S.1 3 i) (zz_nb i - 1 - t)) := by rw [e5]; exact o1
    have y6 : v6.toInt = (((st.1 + t) / 8 : Nat) : Int) := by rw [e6, za_sr (n := 3) 3 8 e1' (by decide) (by decide) (by decide)]; omega
    refine zT_gi y6 (by omega) (zT_gi y6 (by omega) ?_)
    rw [za_pos y6]
    refine zT_lt (fun S7 e7 => zT_lt (fun v8 e8 => zT_lt (fun v9 e9 => ?_)))
    have e7w : ((7 : Int32) - (x1 &&& (7 : Int32))).toInt = ((7 - (st.1 + t) % 8 : Nat) : Int) := by
      have q7 := za_and7 x1
      rw [e1'] at q7
      rw [za_sub (show (7 : Int32).toInt = 7 by decide) q7 (by omega) (by omega)]; omega
    have p7 : ∀ m, m < 8 → 1 ≤ (2 : Int) ^ (7 - m) ∧ (2 : Int) ^ (7 - m) ≤ 128 := by decide
    have hp7 := p7 ((st.1 + t) % 8) (Nat.mod_lt _ (by omega))
    have ysh : v5 <<< (((7 : Int32) - (x1 &&& (7 : Int32))) &&& 31) = nI (zz_bi (S.1 3 i) (zz_nb i - 1 - t) * 2 ^ (7 - (st.1 + t) % 8)) := by
      apply za_of
      have y5' : v5.toInt = (zz_bi (S.1 3 i) (zz_nb i - 1 - t) : Nat) := by rw [y5]; exact za_i1 (by omega)
      have hm := zn_mul (a := ((zz_bi (S.1 3 i) (zz_nb i - 1 - t) : Nat) : Int)) (b := 2 ^ (7 - (st.1 + t) % 8)) (A := 1) (B := 128) (by omega) (by omega) (by omega) (by omega)
      rw [za_shl y5' e7w (by omega) (by omega) (by omega)]
      push_cast; rfl
    obtain ⟨k1, k2, k3⟩ := zz_k1 ((st.1 + t) % 8) (Nat.mod_lt _ (by omega)) (zz_bi (S.1 3 i) (zz_nb i - 1 - t)) (by omega) ((zz_inb (fun b => zz_bi (S.1 3 i) b) (zz_nb i) st t).2 ((st.1 + t) / 8)) (hg1.1 _) (by have := hg1.2.2; rw [hp1] at this; exact this)
    refine hR _ _ _ (by omega) ⟨by omega, ?_, ?_, ?_, fun k hk => ?_⟩
    · rw [e8, e1, zc_1]; rfl
    · rw [e9, za_add (za_i1 (n := zz_nb i - 1 - t) (by omega)) (show (-1 : Int32).toInt = -1 by decide) (by omega) (by omega)]; omega
    · rw [e7]; exact hF.wi _ ⟨rfl, by omega⟩
    · show S7.1 2 k = nI (if k = (zz_inb (fun b => zz_bi (S.1 3 i) b) (zz_nb i) st t).1 / 8 then _ else _)
      rw [hp1]
      by_cases ck : k = (st.1 + t) / 8
      · rw [if_pos ck, e7, ck, zs_ii, hB _ (by omega), ysh, za_or, k3]
      · rw [if_neg ck, e7, zs_in _ _ (by omega)]; exact hB k hk
theorem zp_pack (S : zs_T) : zQ (fun S1 => zF (fun k j => k = 2 ∧ j < 33) zF_0 S S1 ∧ ∀ k, k < 33 → S1.1 2 k = nI (zz_pack (S.1 3) k)) (zf_X10_pack S) := by
  refine zQ.of (fun T hT => ?_)
  unfold zf_X10_pack
  refine zT_b1 (zp_fillI 2 33 S (0 : Int32) (by omega)) (fun S1 h1 => zT_gi zc_c0 (by omega) ?_)
  rw [za_pos zc_c0]
  refine zT_lt (fun S2 e2 => ?_)
  have F2 : zF (fun k j => k = 2 ∧ j < 33) zF_0 S S2 := by rw [e2]; exact h1.1.wi _ ⟨rfl, by omega⟩
  have B2 : ∀ k, k < 33 → S2.1 2 k = nI (zz_st0.2 k) := by
    intro k hk
    show _ = nI (if k = 0 then 208 else 0)
    rw [e2]
    by_cases c : k = 0
    · subst c; rw [zs_ii]; rfl
    · rw [zs_in _ _ (by omega), if_neg c]
      exact za_of (by rw [h1.2 k hk]; decide)
  clear e2
  refine zT_b1 (zQ_for3 _ 76 (fun i S1 x1 => x1 = nI (zz_pla i) ∧ zF (fun k j => k = 2 ∧ j < 33) zF_0 S S1 ∧ ∀ k, k < 33 → S1.1 2 k = nI ((zz_outb (fun i b => zz_bi (S.1 3 i) b) zz_st0 i).2 k)) (fun S1 => zF (fun k j => k = 2 ∧ j < 33) zF_0 S S1 ∧ ∀ k, k < 33 → S1.1 2 k = nI (zz_pack (S.1 3) k)) ?_ ?_ 600 0 S2 (4 : Int32) (by omega) (by omega) ⟨rfl, F2, B2⟩) (fun S13 h13 => hT _ h13)
  · intro i Sc x1 hi hP rec T hT
    obtain ⟨e1, hF, hB⟩ := hP
    have ei := za_i1 (n := i) (by omega)
    have hp1 := zz_outb_1 (fun i b => zz_bi (S.1 3 i) b) (st := zz_st0) rfl i
    have e3 : Sc.1 3 i = S.1 3 i := hF.1 3 _ (by omega)
    have hin := zp_pin Sc hi (zz_outb_g (β := fun i b => zz_bi (S.1 3 i) b) (fun i b => (zz_bi_s (S.1 3 i) b).2) zz_st0_g i) (by rw [hp1]; exact zz_pla_b i hi) hB (x3 := nI (zz_nb i) - (1 : Int32)) rfl
    rw [hp1, e3] at hin
    unfold zb_X10_pack_21
    refine zT_iff (by rw [za_le, ei, show (76 : Int32).toInt = 76 by decide]; omega) ?_
    rw [zp_nb i hi]
    refine zT_b1 (P := fun r => r = nI (zz_nb i)) ⟨_, rfl, rfl⟩ (fun v3 e3' => zT_lt (fun v4 e4 => ?_))
    rw [e4, e3', e1]
    refine zT_b2 hin (fun S10 v11 h10 => zT_lt (fun v12 e12 => ?_))
    obtain ⟨w1, w2, w3⟩ := h10
    rw [e12, zc_1]
    exact hT _ _ ⟨w1, hF.tr w2, w3⟩
  · intro Sc x1 hP rec T hT
    obtain ⟨e1, hF, hB⟩ := hP
    unfold zb_X10_pack_21
    exact zT_ift (by decide) (hT _ ⟨hF, fun k hk => by unfold zz_pack; exact hB k hk⟩)
/-! the reference's -/
theorem zq_pin (S : zs_T) {i : Nat} (hi : i < 76) {st : Nat × (Nat → Nat)} (hg : zz_gd1 st) (hst : st.1 + zz_nb i ≤ 264) (hB : ∀ k, k < 33 → S.1 42 k = nI (st.2 k)) {x3 : Int32} (h3 : x3 = nI (zz_nb i) - (1 : Int32)) :
    zQ (fun o => o.2 = nI (st.1 + zz_nb i) ∧ zF (fun k j => k = 42 ∧ j < 33) zF_0 S o.1 ∧ ∀ k, k < 33 → o.1.1 42 k = nI ((zz_inb (fun b => zz_bi (S.1 43 i) b) (zz_nb i) st (zz_nb i)).2 k)) (zl_3 (zb_X11_take_58 (nI i)) 600 S (nI st.1) x3) := by
  have hnb := zz_nb_b i hi
  have ei := za_i1 (n := i) (by omega)
  have e3 : x3.toInt = (zz_nb i : Int) - 1 := by rw [h3]; exact za_sub (za_i1 (by omega)) (by decide) (by omega) (by omega)
  refine zQ_wh3 _ (zz_nb i) (fun t S1 x1 x3 => t ≤ zz_nb i ∧ x1 = nI (st.1 + t) ∧ x3.toInt = (zz_nb i : Int) - 1 - t ∧ zF (fun k j => k = 42 ∧ j < 33) zF_0 S S1 ∧ ∀ k, k < 33 → S1.1 42 k = nI ((zz_inb (fun b => zz_bi (S.1 43 i) b) (zz_nb i) st t).2 k)) _ ?_ 600 0 S (nI st.1) x3 (by omega) (by omega) ⟨by omega, rfl, by rw [e3]; omega, zF.rf S, hB⟩
  intro t Sc x1 x3 hP rec T hT hR
  obtain ⟨ht, e1, e3, hF, hB⟩ := hP
  unfold zb_X11_take_58
  refine zT_if (fun c => hT _ ?_) (fun c => ?_)
  · rw [za_lt, e3, show (0 : Int32).toInt = 0 by decide] at c
    have : t = zz_nb i := by omega
    subst this
    exact ⟨e1, hF, hB⟩
  · rw [za_lt, e3, show (0 : Int32).toInt = 0 by decide] at c
    have hg1 := zz_inb_g (β := fun b => zz_bi (S.1 43 i) b) (fun b => (zz_bi_s (S.1 43 i) b).2) (zz_nb i) hg t
    have hp1 := zz_inb_1 (fun b => zz_bi (S.1 43 i) b) (zz_nb i) st t
    have w3 : x3 = nI (zz_nb i - 1 - t) := za_of (by omega)
    obtain ⟨o1, o2⟩ := zz_bi_s (S.1 43 i) (zz_nb i - 1 - t)
    have e1' : x1.toInt = ((st.1 + t : Nat) : Int) := by rw [e1]; exact za_i1 (by omega)
    have ed := za_div e1' (show (8 : Int32).toInt = 8 by decide) (by omega) (by omega)
    refine zT_lt (fun v9 e9 => ?_)
    have y9 : v9.toInt = (((st.1 + t) / 8 : Nat) : Int) := by rw [e9, ed]; omega
    refine zT_gi y9 (by omega) (zT_gi ei hi (zT_gi y9 (by omega) ?_))
    rw [za_pos y9, za_pos ei, hF.1 43 _ (by omega), w3, o1]
    refine zT_lt (fun S7 e7 => zT_lt (fun v8 e8 => zT_lt (fun v9 e9 => ?_)))
    have e7w : ((7 : Int32) - (x1 - x1 / (8 : Int32) * (8 : Int32))).toInt = ((7 - (st.1 + t) % 8 : Nat) : Int) := by
      have q7 := za_sub e1' (za_mul ed (show (8 : Int32).toInt = 8 by decide) (by omega) (by omega)) (by omega) (by omega)
      rw [za_sub (show (7 : Int32).toInt = 7 by decide) q7 (by omega) (by omega)]; omega
    have p7 : ∀ m, m < 8 → 1 ≤ (2 : Int) ^ (7 - m) ∧ (2 : Int) ^ (7 - m) ≤ 128 := by decide
    have hp7 := p7 ((st.1 + t) % 8) (Nat.mod_lt _ (by omega))
    obtain ⟨k1, k2, k3⟩ := zz_k1 ((st.1 + t) % 8) (Nat.mod_lt _ (by omega)) (zz_bi (S.1 43 i) (zz_nb i - 1 - t)) (by omega) ((zz_inb (fun b => zz_bi (S.1 43 i) b) (zz_nb i) st t).2 ((st.1 + t) / 8)) (hg1.1 _) (by have := hg1.2.2; rw [hp1] at this; exact this)
    have hbb := hg1.1 ((st.1 + t) / 8)
    refine hR _ _ _ (by omega) ⟨by omega, ?_, ?_, ?_, fun k hk => ?_⟩
    · rw [e8, e1, zc_1]; rfl
    · rw [e9, za_add (za_i1 (n := zz_nb i - 1 - t) (by omega)) (show (-1 : Int32).toInt = -1 by decide) (by omega) (by omega)]; omega
    · rw [e7]; exact hF.wi _ ⟨rfl, by omega⟩
    · show S7.1 42 k = nI (if k = (zz_inb (fun b => zz_bi (S.1 43 i) b) (zz_nb i) st t).1 / 8 then _ else _)
      rw [hp1]
      by_cases ck : k = (st.1 + t) / 8
      · rw [if_pos ck, e7, ck, zs_ii, hB _ (by omega)]
        apply za_of
        have hm := zn_mul (a := ((zz_bi (S.1 43 i) (zz_nb i - 1 - t) : Nat) : Int)) (b := 2 ^ (7 - (st.1 + t) % 8)) (A := 1) (B := 128) (by omega) (by omega) (by omega) (by omega)
        rw [za_add (za_i1 (by omega)) (za_shl (za_i1 (n := zz_bi (S.1 43 i) (zz_nb i - 1 - t)) (by omega)) e7w (by omega) (by omega) (by omega)) (by omega) (by omega)]
        push_cast; rfl
      · rw [if_neg ck, e7, zs_in _ _ (by omega)]; exact hB k hk
theorem zq_take (S : zs_T) : zQ (fun o => o.1 = (33 : Int32) ∧ zF (fun k j => (k = 42 ∧ j < 33) ∨ (k = 40 ∧ (j = 0 ∨ j = 3))) zF_0 S o.2 ∧ o.2.1 40 0 = (0 : Int32) ∧ o.2.1 40 3 = (33 : Int32) ∧ ∀ k, k < 33 → o.2.1 42 k = nI (zz_pack (S.1 43) k)) (zf_X11_take S) := by
  refine zQ.of (fun T hT => ?_)
  unfold zf_X11_take
  refine zT_lt (fun S1 e1 => zT_lt (fun S2 e2 => ?_))
  have F2 : zF (fun k j => (k = 42 ∧ j < 33) ∨ (k = 40 ∧ (j = 0 ∨ j = 3))) zF_0 S S2 := by rw [e2, e1]; exact ((zF.rf S).wi _ (by omega)).wi _ (by omega)
  have c2 : S2.1 40 0 = (0 : Int32) := by rw [e2, zs_in _ _ (by omega), e1, zs_ii]
  have d2 : S2.1 40 3 = (33 : Int32) := by rw [e2, zs_ii]
  clear e1 e2
  refine zT_b1 (zQ_mapI _ 33 42 (fun t => t) (fun j => j < 33) (fun _ => 0) S2 (fun s t _ _ h => h) (fun t h => h) (by omega) ?_ ?_) (fun S5 h5 => zT_gi zc_c0 (by omega) ?_)
  · intro i Sc hi hF hU hW rec T hT
    have ei : (nI i).toInt = i := za_nI (by omega)
    unfold zb_X11_take_13
    refine zT_iff (by rw [za_le, ei, show (33 : Int32).toInt = 33 by decide]; omega) (zT_gi ei (by omega) (zT_lt (fun S1 e1 => zT_lt (fun v2 e2 => ?_))))
    rw [e2, zc_1, e1, za_pos ei]
    exact hT _ (by decide)
  · intro S1 hF rec T hT
    unfold zb_X11_take_13
    exact zT_ift (by decide) hT
  rw [za_pos zc_c0]
  refine zT_lt (fun S6 e6 => ?_)
  have F6 : zF (fun k j => (k = 42 ∧ j < 33) ∨ (k = 40 ∧ (j = 0 ∨ j = 3))) zF_0 S S6 := by rw [e6]; exact (F2.tr (h5.1.mo (fun k j h => Or.inl h) (fun _ _ h => h))).wi _ (by omega)
  have c6 : S6.1 40 0 = (0 : Int32) := by rw [e6, zs_in _ _ (by omega), h5.1.1 40 _ (by omega)]; exact c2
  have d6 : S6.1 40 3 = (33 : Int32) := by rw [e6, zs_in _ _ (by omega), h5.1.1 40 _ (by omega)]; exact d2
  have B6 : ∀ k, k < 33 → S6.1 42 k = nI (zz_st0.2 k) := by
    intro k hk
    show _ = nI (if k = 0 then 208 else 0)
    rw [e6]
    by_cases c : k = 0
    · subst c; rw [zs_ii]; rfl
    · rw [zs_in _ _ (by omega), if_neg c]
      exact za_of (by rw [h5.2 k hk]; decide)
  clear e6
  refine zT_b1 (zQ_for3 _ 76 (fun i S1 x1 => x1 = nI (zz_pla i) ∧ zF (fun k j => (k = 42 ∧ j < 33) ∨ (k = 40 ∧ (j = 0 ∨ j = 3))) zF_0 S S1 ∧ (S1.1 40 0 = (0 : Int32) ∧ S1.1 40 3 = (33 : Int32)) ∧ ∀ k, k < 33 → S1.1 42 k = nI ((zz_outb (fun i b => zz_bi (S.1 43 i) b) zz_st0 i).2 k)) (fun S1 => zF (fun k j => (k = 42 ∧ j < 33) ∨ (k = 40 ∧ (j = 0 ∨ j = 3))) zF_0 S S1 ∧ (S1.1 40 0 = (0 : Int32) ∧ S1.1 40 3 = (33 : Int32)) ∧ ∀ k, k < 33 → S1.1 42 k = nI (zz_pack (S.1 43) k)) ?_ ?_ 600 0 S6 (4 : Int32) (by omega) (by omega) ⟨rfl, F6, ⟨c6, d6⟩, B6⟩) (fun S13 h13 => hT _ ⟨rfl, h13.1, h13.2.1.1, h13.2.1.2, h13.2.2⟩)
  · intro i Sc x1 hi hP rec T hT
    obtain ⟨e1, hF, hcd, hB⟩ := hP
    have ei := za_i1 (n := i) (by omega)
    have hp1 := zz_outb_1 (fun i b => zz_bi (S.1 43 i) b) (st := zz_st0) rfl i
    have e3 : Sc.1 43 i = S.1 43 i := hF.1 43 _ (by omega)
    have hin := zq_pin Sc hi (zz_outb_g (β := fun i b => zz_bi (S.1 43 i) b) (fun i b => (zz_bi_s (S.1 43 i) b).2) zz_st0_g i) (by rw [hp1]; exact zz_pla_b i hi) hB (x3 := nI (zz_nb i) - (1 : Int32)) rfl
    rw [hp1, e3] at hin
    unfold zb_X11_take_45
    refine zT_iff (by rw [za_le, ei, show (76 : Int32).toInt = 76 by decide]; omega) (zT_lt (fun v7 e7 => zT_lt (fun v8 e8 => ?_)))
    rw [e8, e7, zq_nb i hi, e1]
    refine zT_b2 hin (fun S10 v11 h10 => zT_lt (fun v12 e12 => ?_))
    dsimp only at h10
    obtain ⟨w1, w2, w3⟩ := h10
    rw [e12, zc_1]
    exact hT _ _ ⟨w1, hF.tr (w2.mo (fun k j h => Or.inl h) (fun _ _ h => h)), ⟨by rw [w2.1 40 _ (by omega)]; exact hcd.1, by rw [w2.1 40 _ (by omega)]; exact hcd.2⟩, w3⟩
  · intro Sc x1 hP rec T hT
    obtain ⟨e1, hF, hcd, hB⟩ := hP
    unfold zb_X11_take_45
    exact zT_ift (by decide) (hT _ ⟨hF, hcd, fun k hk => by unfold zz_pack; exact hB k hk⟩)
/-! unpacking -/
def zz_val (γ : Nat → Nat) (pl : Nat) : Nat → Nat
  | 0 => 0
  | t + 1 => 2 * zz_val γ pl t + γ (pl + t)
theorem zz_val_b {γ : Nat → Nat} (h : ∀ k, γ k ≤ 1) (pl : Nat) : ∀ t, zz_val γ pl t < 2 ^ t := by
  intro t
  induction t with
  | zero => exact Nat.one_pos
  | succ t ih => have := h (pl + t); simp only [zz_val]; rw [Nat.pow_succ]; omega
theorem zz_val_7 {γ : Nat → Nat} (h : ∀ k, γ k ≤ 1) (pl : Nat) {t : Nat} (ht : t ≤ 7) : zz_val γ pl t < 128 := by
  have h1 := zz_val_b h pl t
  have h2 : ∀ t, t < 8 → 2 ^ t ≤ 128 := by decide
  have := h2 t (by omega)
  omega
def zz_ga (B : Nat → Int32) (pl : Nat) : Nat := zz_bi (B (pl / 8)) (7 - pl % 8)
theorem zz_ga_b (B : Nat → Int32) (pl : Nat) : zz_ga B pl ≤ 1 := (zz_bi_s _ _).2
def zz_U (B : Nat → Int32) (i : Nat) : Nat := zz_val (zz_ga B) (zz_pla i) (zz_nb i)
theorem zp_unpack (S : zs_T) {B : Nat → Int32} (hB : ∀ k, k < 33 → S.1 2 k = B k) : zQ (fun S1 => zF (fun k j => k = 3 ∧ j < 76) zF_0 S S1 ∧ ∀ i, i < 76 → S1.1 3 i = nI (zz_U B i)) (zf_X10_unpack S) := by
  refine zQ.of (fun T hT => ?_)
  unfold zf_X10_unpack
  refine zT_b1 (zQ_for3 _ 76 (fun i S1 x1 => x1 = nI (zz_pla i) ∧ zF (fun k j => k = 3 ∧ j < 76) zF_0 S S1 ∧ ∀ k, k < i → S1.1 3 k = nI (zz_U B k)) (fun S1 => zF (fun k j => k = 3 ∧ j < 76) zF_0 S S1 ∧ ∀ i, i < 76 → S1.1 3 i = nI (zz_U B i)) ?_ ?_ 600 0 S (4 : Int32) (by omega) (by omega) ⟨rfl, zF.rf S, fun k hk => absurd hk (Nat.not_lt_zero k)⟩) (fun S13 h13 => hT _ h13)
  · intro i Sc x1 hi hP rec T hT
    obtain ⟨e1, hF, hW⟩ := hP
    have ei := za_i1 (n := i) (by omega)
    have hnb := zz_nb_b i hi
    have hpl := zz_pla_b i hi
    unfold zb_X10_unpack_4
    refine zT_iff (by rw [za_le, ei, show (76 : Int32).toInt = 76 by decide]; omega) ?_
    rw [zp_nb i hi]
    refine zT_b1 (P := fun r => r = nI (zz_nb i)) ⟨_, rfl, rfl⟩ (fun v1 e1' => zT_lt (fun v2 e2 => ?_))
    have w2 : v2.toInt = (zz_nb i : Int) - 1 := by rw [e2, e1']; exact za_sub (za_i1 (by omega)) (by decide) (by omega) (by omega)
    rw [e1]
    refine zT_b2 (P := fun o => o.1 = nI (zz_pla i + zz_nb i) ∧ o.2 = nI (zz_U B i)) (zQ_wh3 _ (zz_nb i) (fun t x1 x3 x4 => t ≤ zz_nb i ∧ x1 = nI (zz_pla i + t) ∧ x3 = nI (zz_val (zz_ga B) (zz_pla i) t) ∧ x4.toInt = (zz_nb i : Int) - 1 - t) _ ?_ 600 0 (nI (zz_pla i)) (0 : Int32) v2 (by omega) (by omega) ⟨by omega, rfl, rfl, by rw [w2]; omega⟩) (fun v7 v8 h7 => ?_)
    · intro t x1 x3 x4 hP rec T hT hR
      obtain ⟨ht, q1, q3, q4⟩ := hP
      have hv := zz_val_7 (zz_ga_b B) (zz_pla i) (t := t) (by omega)
      unfold zb_X10_unpack_20
      refine zT_if (fun c => hT _ ?_) (fun c => ?_)
      · rw [za_lt, q4, show (0 : Int32).toInt = 0 by decide] at c
        have : t = zz_nb i := by omega
        subst this
        exact ⟨q1, q3⟩
      · rw [za_lt, q4, show (0 : Int32).toInt = 0 by decide] at c
        have e1' : x1.toInt = ((zz_pla i + t : Nat) : Int) := by rw [q1]; exact za_i1 (by omega)
        have y6 : (x1 >>> ((3 : Int32) &&& 31)).toInt = (((zz_pla i + t) / 8 : Nat) : Int) := by rw [za_sr (n := 3) 3 8 e1' (by decide) (by decide) (by decide)]; omega
        have e7w : ((7 : Int32) - (x1 &&& (7 : Int32))) = nI (7 - (zz_pla i + t) % 8) := by
          apply za_of
          have q7 := za_and7 x1
          rw [e1'] at q7
          rw [za_sub (show (7 : Int32).toInt = 7 by decide) q7 (by omega) (by omega)]; omega
        obtain ⟨o1, o2⟩ := zz_bi_s (B ((zz_pla i + t) / 8)) (7 - (zz_pla i + t) % 8)
        refine zT_gi y6 (by omega) ?_
        rw [za_pos y6, hF.1 2 _ (by omega), hB _ (by omega), e7w, o1]
        refine zT_lt (fun v3 e3 => zT_lt (fun v4 e4 => zT_lt (fun v5 e5 => zT_lt (fun v6 e6 => ?_))))
        refine hR _ _ _ (by omega) ⟨by omega, ?_, ?_, ?_⟩
        · rw [e5, q1, zc_1]; rfl
        · rw [e4, e3, q3]
          apply za_of
          have ev := za_i1 (n := zz_val (zz_ga B) (zz_pla i) t) (by omega)
          rw [za_add (za_mul (show (2 : Int32).toInt = 2 by decide) ev (by omega) (by omega)) (za_i1 (by omega)) (by omega) (by omega)]
          simp only [zz_val]
          unfold zz_ga
          push_cast; rfl
        · rw [e6, za_add q4 (show (-1 : Int32).toInt = -1 by decide) (by omega) (by omega)]; omega
    · dsimp only at h7
      obtain ⟨u1, u2⟩ := h7
      refine zT_gi ei hi ?_
      rw [za_pos ei]
      refine zT_lt (fun S9 e9 => zT_lt (fun v10 e10 => ?_))
      rw [e10, zc_1]
      refine hT _ _ ⟨u1, ?_, fun k hk => ?_⟩
      · rw [e9]; exact hF.wi _ ⟨rfl, hi⟩
      · rw [e9]
        by_cases ck : k = i
        · subst ck; rw [zs_ii]; exact u2
        · rw [zs_in _ _ (by omega)]; exact hW k (by omega)
  · intro Sc x1 hP rec T hT
    obtain ⟨e1, hF, hW⟩ := hP
    unfold zb_X10_unpack_4
    exact zT_ift (by decide) (hT _ ⟨hF, hW⟩)
theorem zq_unpack (S : zs_T) {B : Nat → Int32} (hB : ∀ k, k < 33 → S.1 42 k = B k) : zQ (fun S1 => zF (fun k j => k = 43 ∧ j < 76) zF_0 S S1 ∧ ∀ i, i < 76 → S1.1 43 i = nI (zz_U B i)) (zl_3 zb_X11_decode_48 600 S (4 : Int32) (0 : Int32)) := by
  refine zQ_for3 _ 76 (fun i S1 x1 => x1 = nI (zz_pla i) ∧ zF (fun k j => k = 43 ∧ j < 76) zF_0 S S1 ∧ ∀ k, k < i → S1.1 43 k = nI (zz_U B k)) _ ?_ ?_ 600 0 S (4 : Int32) (by omega) (by omega) ⟨rfl, zF.rf S, fun k hk => absurd hk (Nat.not_lt_zero k)⟩
  · intro i Sc x1 hi hP rec T hT
    obtain ⟨e1, hF, hW⟩ := hP
    have ei := za_i1 (n := i) (by omega)
    have hnb := zz_nb_b i hi
    have hpl := zz_pla_b i hi
    unfold zb_X11_decode_48
    refine zT_iff (by rw [za_le, ei, show (76 : Int32).toInt = 76 by decide]; omega) (zT_gi ei hi ?_)
    rw [za_pos ei]
    refine zT_lt (fun S3 e3 => zT_lt (fun v4 e4 => ?_))
    have w4 : v4.toInt = (zz_nb i : Int) := by rw [e4, zq_nb i hi]; exact za_i1 (by omega)
    rw [e1]
    refine zT_b2 (P := fun o => o.2 = nI (zz_pla i + zz_nb i) ∧ zF (fun k j => k = 43 ∧ j = i) zF_0 S3 o.1 ∧ o.1.1 43 i = nI (zz_U B i)) (zQ_wh3 _ (zz_nb i) (fun t S1 x1 x4 => t ≤ zz_nb i ∧ x1 = nI (zz_pla i + t) ∧ zF (fun k j => k = 43 ∧ j = i) zF_0 S3 S1 ∧ S1.1 43 i = nI (zz_val (zz_ga B) (zz_pla i) t) ∧ x4.toInt = (zz_nb i : Int) - t) _ ?_ 600 0 S3 (nI (zz_pla i)) v4 (by omega) (by omega) ⟨by omega, rfl, zF.rf S3, by rw [e3, zs_ii]; rfl, by rw [w4]; omega⟩) (fun S8 v9 h7 => zT_lt (fun v10 e10 => ?_))
    · intro t S1 x1 x4 hP rec T hT hR
      obtain ⟨ht, q1, hF3, q3, q4⟩ := hP
      have hv := zz_val_7 (zz_ga_b B) (zz_pla i) (t := t) (by omega)
      unfold zb_X11_decode_67
      refine zT_if (fun c => hT _ ?_) (fun c => ?_)
      · rw [za_le, q4, show (0 : Int32).toInt = 0 by decide] at c
        have : t = zz_nb i := by omega
        subst this
        exact ⟨q1, hF3, q3⟩
      · rw [za_le, q4, show (0 : Int32).toInt = 0 by decide] at c
        have e1' : x1.toInt = ((zz_pla i + t : Nat) : Int) := by rw [q1]; exact za_i1 (by omega)
        have ed := za_div e1' (show (8 : Int32).toInt = 8 by decide) (by omega) (by omega)
        have y6 : (x1 / (8 : Int32)).toInt = (((zz_pla i + t) / 8 : Nat) : Int) := by rw [ed]; omega
        have e7w : ((7 : Int32) - (x1 - x1 / (8 : Int32) * (8 : Int32))) = nI (7 - (zz_pla i + t) % 8) := by
          apply za_of
          have q7 := za_sub e1' (za_mul ed (show (8 : Int32).toInt = 8 by decide) (by omega) (by omega)) (by omega) (by omega)
          rw [za_sub (show (7 : Int32).toInt = 7 by decide) q7 (by omega) (by omega)]; omega
        obtain ⟨o1, o2⟩ := zz_bi_s (B ((zz_pla i + t) / 8)) (7 - (zz_pla i + t) % 8)
        have hb42 : S1.1 42 ((zz_pla i + t) / 8) = B ((zz_pla i + t) / 8) := by rw [hF3.1 42 _ (by omega), e3, zs_in _ _ (by omega), hF.1 42 _ (by omega)]; exact hB _ (by omega)
        refine zT_gi ei hi (zT_gi y6 (by omega) (zT_gi ei hi ?_))
        rw [za_pos y6, za_pos ei, hb42, e7w, o1, q3]
        refine zT_lt (fun S5 e5 => zT_lt (fun v5 e6 => zT_lt (fun v6 e7 => ?_)))
        refine hR _ _ _ (by omega) ⟨by omega, ?_, ?_, ?_, ?_⟩
        · rw [e6, q1, zc_1]; rfl
        · rw [e5]; exact hF3.wi _ ⟨rfl, rfl⟩
        · rw [e5, zs_ii]
          apply za_of
          have ev := za_i1 (n := zz_val (zz_ga B) (zz_pla i) t) (by omega)
          rw [za_add (za_mul (show (2 : Int32).toInt = 2 by decide) ev (by omega) (by omega)) (za_i1 (by omega)) (by omega) (by omega)]
          simp only [zz_val]
          unfold zz_ga
          push_cast; rfl
        · rw [e7, za_add q4 (show (-1 : Int32).toInt = -1 by decide) (by omega) (by omega)]; omega
    · dsimp only at h7
      obtain ⟨u1, u2, u3⟩ := h7
      rw [e10, zc_1]
      refine hT _ _ ⟨u1, ?_, fun k hk => ?_⟩
      · refine (hF.tr ?_).tr (u2.mo (fun k j h => ⟨h.1, by omega⟩) (fun _ _ h => h))
        rw [e3]; exact (zF.rf Sc).wi _ ⟨rfl, hi⟩
      · by_cases ck : k = i
        · subst ck; exact u3
        · rw [u2.1 43 _ (by omega), e3, zs_in _ _ (by omega)]; exact hW k (by omega)
  · intro Sc x1 hP rec T hT
    obtain ⟨e1, hF, hW⟩ := hP
    unfold zb_X11_decode_48
    exact zT_ift (by decide) (hT _ ⟨hF, hW⟩)
theorem zz_nb_4 : ∀ p, p < 4 → zz_nb (8 + 17 * p) = 7 ∧ zz_nb (9 + 17 * p) = 2 ∧ zz_nb (10 + 17 * p) = 2 ∧ zz_nb (11 + 17 * p) = 6 ∧ ∀ i, i < 13 → zz_nb (12 + 17 * p + i) = 3 := by decide +kernel
theorem zz_nb_8 : ∀ j, j < 8 → zz_nb j ≤ 6 := by decide +kernel
theorem zz_U_ok (B : Nat → Int32) : zz_pok (fun i => ((zz_U B i : Nat) : Int)) := by
  have key : ∀ i n, zz_nb i = n → zz_U B i < 2 ^ n := fun i n h => by rw [← h]; exact zz_val_b (zz_ga_b B) _ _
  refine ⟨fun j hj => ?_, fun p hp => ?_⟩
  · have h1 := zz_val_b (zz_ga_b B) (zz_pla j) (zz_nb j)
    have h2 : ∀ t, t < 7 → 2 ^ t ≤ 64 := by decide
    have h3 := h2 (zz_nb j) (by have := zz_nb_8 j hj; omega)
    have h4 : zz_U B j < 64 := by unfold zz_U; omega
    dsimp only
    exact ⟨by omega, by omega⟩
  · obtain ⟨h0, h1, h2, h3, h4⟩ := zz_nb_4 p hp
    have k0 := key _ _ h0
    have k1 := key _ _ h1
    have k2 := key _ _ h2
    have k3 := key _ _ h3
    dsimp only
    refine ⟨⟨by omega, by omega⟩, ⟨by omega, by omega⟩, ⟨by omega, by omega⟩, ⟨by omega, by omega⟩, fun i hi => ?_⟩
    have k4 := key _ _ (h4 i hi)
    exact ⟨by omega, by omega⟩
