/-! norm, the greatest size, the lowering, the correlation -/
theorem zz_p2 (a : Int) (n : Nat) : a * 2 ^ (n + 1) = 2 * a * 2 ^ n := by
  rw [Int.pow_succ, Int.mul_comm (2 ^ n) 2, ← Int.mul_assoc, Int.mul_comm a 2]
def zz_nf : Nat → Int → Nat
  | 0, _ => 0
  | f + 1, a => if 1073741824 ≤ a then 0 else zz_nf f (2 * a) + 1
def zz_norm (a : Int) : Nat := zz_nf 30 a
theorem zz_nf_s : ∀ (f : Nat) (a : Int), 1 ≤ a → a < 2147483648 → 1073741824 ≤ a * 2 ^ f → 1073741824 ≤ a * 2 ^ (zz_nf f a) ∧ a * 2 ^ (zz_nf f a) < 2147483648 ∧ zz_nf f a ≤ f ∧ ∀ i, i < zz_nf f a → a * 2 ^ i < 1073741824 := by
  intro f
  induction f with
  | zero =>
    intro a h1 h2 h3
    exact ⟨h3, by show a * 2 ^ 0 < _; simpa using h2, Nat.le_refl _, fun i hi => absurd hi (Nat.not_lt_zero i)⟩
  | succ f ih =>
    intro a h1 h2 h3
    by_cases c : 1073741824 ≤ a
    · have e : zz_nf (f + 1) a = 0 := by simp only [zz_nf]; rw [if_pos c]
      rw [e]
      exact ⟨by simpa using c, by simpa using h2, Nat.zero_le _, fun i hi => absurd hi (Nat.not_lt_zero i)⟩
    · have e : zz_nf (f + 1) a = zz_nf f (2 * a) + 1 := by simp only [zz_nf]; rw [if_neg c]
      rw [zz_p2] at h3
      obtain ⟨g1, g2, g3, g4⟩ := ih (2 * a) (by omega) (by omega) h3
      rw [e, zz_p2]
      refine ⟨g1, g2, by omega, fun i hi => ?_⟩
      cases i with
      | zero => simp; omega
      | succ i => rw [zz_p2]; exact g4 i (by omega)
theorem zz_pw (a : Int) (h : 1 ≤ a) : 1073741824 ≤ a * 2 ^ 30 := by
  have : (2 : Int) ^ 30 = 1073741824 := by decide
  rw [this]; omega
theorem zz_norm_s {a : Int} (h1 : 1 ≤ a) (h2 : a < 2147483648) : 1073741824 ≤ a * 2 ^ (zz_norm a) ∧ a * 2 ^ (zz_norm a) < 2147483648 ∧ zz_norm a ≤ 30 ∧ ∀ i, i < zz_norm a → a * 2 ^ i < 1073741824 := zz_nf_s 30 a h1 h2 (zz_pw a h1)
theorem zp_norm {a : Int32} {x : Int} (h : a.toInt = x) (h1 : 1 ≤ x) : zQ (fun r => r = nI (zz_norm x)) (zf_X4_norm a) := by
  have hb := za_b a
  obtain ⟨g1, g2, g3, g4⟩ := zz_norm_s (a := x) h1 (by omega)
  unfold zf_X4_norm
  refine zQ.of (fun T hT => zT_b1 (zQ_wh2 _ 30 (fun i b c => b = nI i ∧ c.toInt = x * 2 ^ i ∧ i ≤ zz_norm x) (fun o => o = nI (zz_norm x)) ?_ 600 0 (0 : Int32) a (by omega) (by omega) ⟨rfl, by rw [h]; simp, Nat.zero_le _⟩) (fun r hr => hT r hr))
  intro i b c hp rec T hT hR
  obtain ⟨q1, q2, q3⟩ := hp
  have e30 : (30 : Int32).toInt = 30 := by decide
  have eT : (1073741824 : Int32).toInt = 1073741824 := by decide
  have ei : (nI i).toInt = i := za_nI (by omega)
  unfold zb_X4_norm_4
  rw [q1]
  refine zT_if (fun c1 => ?_) (fun c1 => ?_)
  · rw [za_le, e30, ei] at c1
    exact hT _ (by rw [show i = zz_norm x by omega])
  · rw [za_le, e30, ei] at c1
    refine zT_if (fun c2 => ?_) (fun c2 => ?_)
    · rw [za_le, eT, q2] at c2
      refine hT _ ?_
      by_cases c3 : i < zz_norm x
      · have := g4 i c3; omega
      · rw [show i = zz_norm x by omega]
    · rw [za_le, eT, q2] at c2
      have hx : 0 ≤ x * 2 ^ i := Int.mul_nonneg (by omega) (Int.le_of_lt (Int.pow_pos (by omega)))
      have hi : i < zz_norm x := by
        by_cases c3 : i < zz_norm x
        · exact c3
        · have : i = zz_norm x := by omega
          rw [this] at c2; omega
      refine zT_lt (fun v1 e1 => zT_lt (fun v2 e2 => ?_))
      refine hR _ _ (by omega) ⟨?_, ?_, hi⟩
      · rw [e1, zc_1]
      · rw [e2]
        have := za_sl (n := 1) 1 2 q2 (by decide) (by decide) (by decide) (by omega) (by omega)
        rw [this, zz_p2, Int.mul_comm, Int.mul_assoc]
theorem zq_norm {a : Int64} {x : Int} (h : a.toInt = x) (h1 : 1 ≤ x) (h2 : x < 2147483648) : zQ (fun r => r = nI (zz_norm x)) (zf_X11_norm a) := by
  obtain ⟨g1, g2, g3, g4⟩ := zz_norm_s (a := x) h1 h2
  unfold zf_X11_norm
  refine zQ.of (fun T hT => zT_b1 (zQ_wh1 _ 30 (fun i b => b = nI i ∧ i ≤ zz_norm x) (fun o => o = nI (zz_norm x)) ?_ 600 0 (0 : Int32) (by omega) (by omega) ⟨rfl, Nat.zero_le _⟩) (fun r hr => hT r hr))
  intro i b hp rec T hT hR
  obtain ⟨q1, q3⟩ := hp
  have eT : (1073741824 : Int64).toInt = 1073741824 := by decide
  have ei : (nI i).toInt = i := za_nI (by omega)
  have hx : 0 ≤ x * 2 ^ i := Int.mul_nonneg (by omega) (Int.le_of_lt (Int.pow_pos (by omega)))
  have hu : x * 2 ^ i < 2147483648 := by
    by_cases c3 : i < zz_norm x
    · have := g4 i c3; omega
    · rw [show i = zz_norm x by omega]; exact g2
  have hs := zb_shl h ei (by omega) (by omega) (by omega)
  unfold zb_X11_norm_2
  rw [q1]
  refine zT_if (fun c2 => ?_) (fun c2 => ?_)
  · rw [zb_le, eT, hs] at c2
    refine hT _ ?_
    by_cases c3 : i < zz_norm x
    · have := g4 i c3; omega
    · rw [show i = zz_norm x by omega]
  · rw [zb_le, eT, hs] at c2
    have hi : i < zz_norm x := by
      by_cases c3 : i < zz_norm x
      · exact c3
      · have : i = zz_norm x := by omega
        rw [this] at c2; omega
    refine zT_lt (fun v1 e1 => hR _ (by omega) ⟨?_, hi⟩)
    rw [e1, zc_1]
theorem zp_great (k0 n0 : Nat) (S : zs_T) {a1 a2 a3 : Int32} {q d n : Nat} (h1 : a1.toInt = q) (h2 : a2.toInt = d) (h3 : a3.toInt = n) (hn : n < 600) (hd : d ≤ 3) (hq : q ≤ 160) (hb : ∀ t, t < n → q + d * t < n0) {x : Nat → Int} (hx : ∀ t, t < n → (S.1 k0 (q + d * t)).toInt = x t) (hr : ∀ t, t < n → -32768 ≤ x t ∧ x t ≤ 32767) :
    zQ (fun r => r.toInt = zz_max (fun t => zz_size (x t)) n) (zf_X4_greatestSize k0 n0 S a1 a2 a3) := by
  unfold zf_X4_greatestSize
  refine zQ.of (fun T hT => zT_b1 (zQ_for _ n (fun i a => a.toInt = zz_max (fun t => zz_size (x t)) i) (fun o => o.toInt = zz_max (fun t => zz_size (x t)) n) ?_ ?_ 600 0 (0 : Int32) (by omega) (by omega) rfl) (fun r hr => hT r hr))
  · intro i a hi hp rec T hT
    have ei : (nI i).toInt = i := za_nI (by omega)
    have hm := zn_mul (a := (d : Int)) (b := (i : Int)) (A := 3) (B := 600) (by omega) (by omega) (by omega) (by omega)
    have e1 := za_mul h2 ei (by omega) (by omega)
    have e2 := za_add h1 e1 (by omega) (by omega)
    have e3 : (a1 + a2 * nI i).toInt = ((q + d * i : Nat) : Int) := by rw [e2]; push_cast; rfl
    unfold zb_X4_greatestSize_6
    refine zT_iff (by rw [za_le, h3, ei]; omega) (zT_gi e3 (hb i hi) ?_)
    rw [za_pos e3]
    have hs := zp_size (hx i hi) (by have := hr i hi; omega)
    refine zT_lt (fun v1 e4 => zT_if (fun c1 => ?_) (fun c1 => ?_))
    · rw [za_le, e4, hs, hp] at c1
      refine zT_lt (fun v2 e5 => ?_)
      rw [e5, zc_1]
      exact hT _ (by rw [hp]; simp only [zz_max]; rw [if_neg (by omega)])
    · rw [za_le, e4, hs, hp] at c1
      refine zT_lt (fun v2 e5 => ?_)
      rw [e5, zc_1]
      exact hT _ (by rw [e4, hs]; simp only [zz_max]; rw [if_pos (by omega)])
  · intro a hp rec T hT
    have ei : (nI n).toInt = n := za_nI (by omega)
    unfold zb_X4_greatestSize_6
    exact zT_ift (by rw [za_le, h3, ei]; omega) (hT a hp)
theorem zq_great (k0 : Nat) (S : zs_T) {a1 a2 : Int32} {q n : Nat} (h1 : a1.toInt = q) (h2 : a2.toInt = n) (hn : q + n ≤ 160) {x : Nat → Int} (hx : ∀ t, t < n → (S.2 k0 (q + t)).toInt = x t) (hr : ∀ t, t < n → -32768 ≤ x t ∧ x t ≤ 32767) :
    zQ (fun r => r.toInt = zz_max (fun t => zz_size (x t)) n) (zf_X11_greatest k0 S a1 a2) := by
  have e12 := za_add h1 h2 (by omega) (by omega)
  unfold zf_X11_greatest
  rw [za_of h1]
  refine zQ.of (fun T hT => zT_b1 (zQ_for _ (q + n) (fun i a => q ≤ i ∧ a.toInt = zz_max (fun t => zz_size (x t)) (i - q)) (fun o => o.toInt = zz_max (fun t => zz_size (x t)) n) ?_ ?_ 600 q (0 : Int64) (by omega) (by omega) ⟨Nat.le_refl _, by rw [Nat.sub_self]; rfl⟩) (fun r hr => hT r hr))
  · intro i a hi hp rec T hT
    obtain ⟨hqi, hp⟩ := hp
    have ei : (nI i).toInt = i := za_nI (by omega)
    rw [za_of h1] at e12
    have hxi : (S.2 k0 i).toInt = x (i - q) := by have := hx (i - q) (by omega); rw [show q + (i - q) = i by omega] at this; exact this
    have hs := zq_size hxi (by have := hr (i - q) (by omega); omega)
    unfold zb_X11_greatest_5
    refine zT_iff (by rw [za_le, e12, ei]; omega) (zT_gi ei (by omega) ?_)
    rw [za_pos ei]
    have em : zz_max (fun t => zz_size (x t)) (i + 1 - q) = if zz_max (fun t => zz_size (x t)) (i - q) < zz_size (x (i - q)) then zz_size (x (i - q)) else zz_max (fun t => zz_size (x t)) (i - q) := by rw [show i + 1 - q = (i - q) + 1 by omega]; rfl
    refine zT_lt (fun v1 e4 => zT_if (fun c1 => ?_) (fun c1 => ?_))
    · rw [zb_le, e4, hs, hp] at c1
      refine zT_lt (fun v2 e5 => ?_)
      rw [e5, zc_1]
      exact hT _ ⟨by omega, by rw [hp, em, if_neg (by omega)]⟩
    · rw [zb_le, e4, hs, hp] at c1
      refine zT_gi ei (by omega) (zT_lt (fun v3 e6 => zT_lt (fun v2 e5 => ?_)))
      rw [e5, zc_1]
      exact hT _ ⟨by omega, by rw [e6, hs, em, if_pos (by omega)]⟩
  · intro a hp rec T hT
    obtain ⟨hqi, hp⟩ := hp
    rw [za_of h1] at e12
    have ei : (nI (q + n)).toInt = ((q + n : Nat) : Int) := za_nI (by omega)
    unfold zb_X11_greatest_5
    exact zT_ift (by rw [za_le, e12, ei]; push_cast; omega) (hT a (by rw [hp, show q + n - q = n by omega]))
