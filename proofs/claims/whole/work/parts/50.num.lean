/-! ints and longs as whole numbers -/
theorem za_b (a : Int32) : -2147483648 ≤ a.toInt ∧ a.toInt ≤ 2147483647 := ⟨a.le_toInt, Int.le_of_lt_add_one a.toInt_lt⟩
theorem zb_b (a : Int64) : -9223372036854775808 ≤ a.toInt ∧ a.toInt ≤ 9223372036854775807 := ⟨a.le_toInt, Int.le_of_lt_add_one a.toInt_lt⟩
theorem za_add {a b : Int32} {x y : Int} (ha : a.toInt = x) (hb : b.toInt = y) (h1 : -2147483648 ≤ x + y) (h2 : x + y ≤ 2147483647) : (a + b).toInt = x + y := by
  rw [Int32.toInt_add, ha, hb, Int.bmod_eq_of_le] <;> omega
theorem za_sub {a b : Int32} {x y : Int} (ha : a.toInt = x) (hb : b.toInt = y) (h1 : -2147483648 ≤ x - y) (h2 : x - y ≤ 2147483647) : (a - b).toInt = x - y := by
  rw [Int32.toInt_sub, ha, hb, Int.bmod_eq_of_le] <;> omega
theorem za_mul {a b : Int32} {x y : Int} (ha : a.toInt = x) (hb : b.toInt = y) (h1 : -2147483648 ≤ x * y) (h2 : x * y ≤ 2147483647) : (a * b).toInt = x * y := by
  rw [Int32.toInt_mul, ha, hb, Int.bmod_eq_of_le] <;> omega
theorem za_neg {a : Int32} {x : Int} (ha : a.toInt = x) (h1 : -2147483648 < x) : (-a).toInt = -x := by
  have := za_b a
  rw [Int32.toInt_neg, ha, Int.bmod_eq_of_le] <;> omega
theorem zb_add {a b : Int64} {x y : Int} (ha : a.toInt = x) (hb : b.toInt = y) (h1 : -9223372036854775808 ≤ x + y) (h2 : x + y ≤ 9223372036854775807) : (a + b).toInt = x + y := by
  rw [Int64.toInt_add, ha, hb, Int.bmod_eq_of_le] <;> omega
theorem zb_sub {a b : Int64} {x y : Int} (ha : a.toInt = x) (hb : b.toInt = y) (h1 : -9223372036854775808 ≤ x - y) (h2 : x - y ≤ 9223372036854775807) : (a - b).toInt = x - y := by
  rw [Int64.toInt_sub, ha, hb, Int.bmod_eq_of_le] <;> omega
theorem zb_mul {a b : Int64} {x y : Int} (ha : a.toInt = x) (hb : b.toInt = y) (h1 : -9223372036854775808 ≤ x * y) (h2 : x * y ≤ 9223372036854775807) : (a * b).toInt = x * y := by
  rw [Int64.toInt_mul, ha, hb, Int.bmod_eq_of_le] <;> omega
theorem zb_neg {a : Int64} {x : Int} (ha : a.toInt = x) (h1 : -9223372036854775808 < x) : (-a).toInt = -x := by
  have := zb_b a
  rw [Int64.toInt_neg, ha, Int.bmod_eq_of_le] <;> omega
theorem zb_i2l {a : Int32} {x : Int} (ha : a.toInt = x) : (Int32.toInt64 a).toInt = x := by rw [Int32.toInt_toInt64]; exact ha
theorem za_l2i {a : Int64} {x : Int} (ha : a.toInt = x) (h1 : -2147483648 ≤ x) (h2 : x ≤ 2147483647) : (Int64.toInt32 a).toInt = x := by
  rw [Int64.toInt_toInt32, ha, Int.bmod_eq_of_le] <;> omega
theorem za_nI {n : Nat} (h : n < 2147483648) : (nI n).toInt = n := nI_toInt h
theorem za_of {a : Int32} {n : Nat} (h : a.toInt = n) : a = nI n := by
  have := za_b a
  exact Int32.toInt_inj.mp (by rw [h, za_nI (by omega)])
theorem za_shk : ∀ k, k < 32 → ((nI k &&& 31).toBitVec.smod 32).toNat = k := by decide +kernel
theorem zb_shk : ∀ k, k < 64 → ((Int32.toInt64 (nI k) &&& 63).toBitVec.smod 64).toNat = k := by decide +kernel
theorem za_shr {a n : Int32} {x : Int} {k : Nat} (ha : a.toInt = x) (hn : n.toInt = k) (hk : k < 32) : (a >>> (n &&& 31)).toInt = x / 2 ^ k := by
  rw [za_of hn, Kit.i32_shr _ _ (za_shk k hk), ha]
theorem za_sr {a n : Int32} {x : Int} (k : Nat) (p : Int) (ha : a.toInt = x) (hn : n.toInt = k) (hk : k < 32) (hp : (2 : Int) ^ k = p) : (a >>> (n &&& 31)).toInt = x / p := by rw [← hp]; exact za_shr ha hn hk
theorem za_shl {a n : Int32} {x : Int} {k : Nat} (ha : a.toInt = x) (hn : n.toInt = k) (hk : k < 32) (h1 : -2147483648 ≤ x * 2 ^ k) (h2 : x * 2 ^ k ≤ 2147483647) : (a <<< (n &&& 31)).toInt = x * 2 ^ k := by
  rw [za_of hn, Kit.i32_shl _ _ (za_shk k hk) (by rw [ha]; omega) (by rw [ha]; omega), ha]
theorem zb_shr {a : Int64} {n : Int32} {x : Int} {k : Nat} (ha : a.toInt = x) (hn : n.toInt = k) (hk : k < 64) : (a >>> (Int32.toInt64 n &&& 63)).toInt = x / 2 ^ k := by
  rw [za_of hn, Kit.i64_shr _ _ (zb_shk k hk), ha]
theorem zb_sr {a : Int64} {n : Int32} {x : Int} (k : Nat) (p : Int) (ha : a.toInt = x) (hn : n.toInt = k) (hk : k < 64) (hp : (2 : Int) ^ k = p) : (a >>> (Int32.toInt64 n &&& 63)).toInt = x / p := by rw [← hp]; exact zb_shr ha hn hk
theorem zb_shl {a : Int64} {n : Int32} {x : Int} {k : Nat} (ha : a.toInt = x) (hn : n.toInt = k) (hk : k < 64) (h1 : -9223372036854775808 ≤ x * 2 ^ k) (h2 : x * 2 ^ k ≤ 9223372036854775807) : (a <<< (Int32.toInt64 n &&& 63)).toInt = x * 2 ^ k := by
  rw [za_of hn, Kit.i64_shl _ _ (zb_shk k hk) (by rw [ha]; omega) (by rw [ha]; omega), ha]
theorem za_sl {a n : Int32} {x : Int} (k : Nat) (p : Int) (ha : a.toInt = x) (hn : n.toInt = k) (hk : k < 32) (hp : (2 : Int) ^ k = p) (h1 : -2147483648 ≤ x * p) (h2 : x * p ≤ 2147483647) : (a <<< (n &&& 31)).toInt = x * p := by subst hp; exact za_shl ha hn hk h1 h2
theorem zb_sl {a : Int64} {n : Int32} {x : Int} (k : Nat) (p : Int) (ha : a.toInt = x) (hn : n.toInt = k) (hk : k < 64) (hp : (2 : Int) ^ k = p) (h1 : -9223372036854775808 ≤ x * p) (h2 : x * p ≤ 9223372036854775807) : (a <<< (Int32.toInt64 n &&& 63)).toInt = x * p := by subst hp; exact zb_shl ha hn hk h1 h2
theorem za_le {a b : Int32} : a ≤ b ↔ a.toInt ≤ b.toInt := Int32.le_iff_toInt_le
theorem za_lt {a b : Int32} : a < b ↔ a.toInt < b.toInt := Int32.lt_iff_toInt_lt
theorem za_eq {a b : Int32} : a = b ↔ a.toInt = b.toInt := Int32.toInt_inj.symm
theorem zb_le {a b : Int64} : a ≤ b ↔ a.toInt ≤ b.toInt := Int64.le_iff_toInt_le
theorem zb_lt {a b : Int64} : a < b ↔ a.toInt < b.toInt := Int64.lt_iff_toInt_lt
theorem zb_eq {a b : Int64} : a = b ↔ a.toInt = b.toInt := Int64.toInt_inj.symm
theorem za_pos {a : Int32} {n : Nat} (h : a.toInt = n) : a.toNatClampNeg = n := by
  show a.toInt.toNat = n
  rw [h]; exact Int.toNat_natCast n
/-- products of bounded numbers -/
theorem zn_mul {a b A B : Int} (ha1 : -A ≤ a) (ha2 : a ≤ A) (hb1 : -B ≤ b) (hb2 : b ≤ B) : -(A * B) ≤ a * b ∧ a * b ≤ A * B := by
  have hA : 0 ≤ A := by omega
  have hB : 0 ≤ B := by omega
  have h : (a * b).natAbs ≤ (A * B).natAbs := by
    rw [Int.natAbs_mul, Int.natAbs_mul]
    exact Nat.mul_le_mul (by omega) (by omega)
  have hAB : 0 ≤ A * B := Int.mul_nonneg hA hB
  omega
/-- in bounds -/
theorem zg_in {i : Int32} {n j : Nat} {α : Type} {x : Option α} (h : i.toInt = j) (hj : j < n) : zc_gi i n x = x := by
  unfold zc_gi
  rw [if_neg]
  intro c
  rcases c with c | c
  · rw [za_lt, h] at c
    have : (0 : Int32).toInt = 0 := rfl
    omega
  · rw [za_pos h] at c; omega
/-! the document's arithmetic on whole numbers -/
def zz_cut (x : Int) : Int := if x < -32768 then -32768 else if 32767 < x then 32767 else x
def zz_M (a b : Int) : Int := zz_cut ((a * b + 16384) / 32768)
def zz_L (a b : Int) : Int := zz_cut (a * b / 32768)
def zz_size (a : Int) : Int := zz_cut (if a < 0 then -a else a)
def zz_wide (x : Int) : Int := if x < -2147483648 then -2147483648 else if 2147483647 < x then 2147483647 else x
theorem zz_cut_b (x : Int) : -32768 ≤ zz_cut x ∧ zz_cut x ≤ 32767 := by unfold zz_cut; split <;> (try split) <;> omega
theorem zz_M_b (a b : Int) : -32768 ≤ zz_M a b ∧ zz_M a b ≤ 32767 := zz_cut_b _
theorem zz_L_b (a b : Int) : -32768 ≤ zz_L a b ∧ zz_L a b ≤ 32767 := zz_cut_b _
theorem zz_size_b (a : Int) : 0 ≤ zz_size a ∧ zz_size a ≤ 32767 := by unfold zz_size zz_cut; split <;> split <;> (try split) <;> omega
theorem zz_wide_b (x : Int) : -2147483648 ≤ zz_wide x ∧ zz_wide x ≤ 2147483647 := by unfold zz_wide; split <;> (try split) <;> omega
theorem zz_cut_id {x : Int} (h1 : -32768 ≤ x) (h2 : x ≤ 32767) : zz_cut x = x := by unfold zz_cut; split <;> (try split) <;> omega
/-! the class's small functions -/
theorem zp_cut {a : Int32} {x : Int} (h : a.toInt = x) : (zf_X4_cut a).toInt = zz_cut x := by
  subst h
  have e1 : (-32768 : Int32).toInt = -32768 := by decide
  have e2 : (32767 : Int32).toInt = 32767 := by decide
  unfold zf_X4_cut zz_cut
  simp only [za_le, e1, e2]
  split <;> split <;> (try split) <;> omega
theorem zp_rounded {a b : Int32} {x y : Int} (ha : a.toInt = x) (hb : b.toInt = y) (hx1 : -32768 ≤ x) (hx2 : x ≤ 32768) (hy1 : -32768 ≤ y) (hy2 : y ≤ 32768) : (zf_X4_rounded a b).toInt = zz_M x y := by
  have hm := zn_mul (A := 32768) (B := 32768) hx1 hx2 hy1 hy2
  have e := za_mul ha hb (by omega) (by omega)
  have e1 : (a * b + (16384 : Int32)).toInt = x * y + 16384 := za_add e (by decide : (16384 : Int32).toInt = 16384) (by omega) (by omega)
  have e2 := za_sr (n := 15) 15 32768 e1 (by decide) (by decide) (by decide)
  unfold zf_X4_rounded zc_lt
  exact zp_cut e2
theorem zp_floored {a b : Int32} {x y : Int} (ha : a.toInt = x) (hb : b.toInt = y) (h1 : -2147483648 ≤ x * y) (h2 : x * y ≤ 2147483647) : (zf_X4_floored a b).toInt = zz_L x y := by
  have e := za_mul ha hb h1 h2
  have e2 := za_sr (n := 15) 15 32768 e (by decide) (by decide) (by decide)
  exact zp_cut e2
theorem zp_size {a : Int32} {x : Int} (h : a.toInt = x) (h1 : -2147483648 < x) : (zf_X4_size a).toInt = zz_size x := by
  unfold zf_X4_size zz_size
  have e0 : (0 : Int32).toInt = 0 := rfl
  simp only [za_le, e0, h, zc_lt]
  split
  · rw [zp_cut h, if_neg (by omega)]
  · rw [zp_cut (za_neg h h1), if_pos (by omega)]
/-! the reference's -/
theorem zq_cut {a : Int64} {x : Int} (h : a.toInt = x) : (zf_X11_cut a).toInt = zz_cut x := by
  subst h
  have e1 : (-32768 : Int64).toInt = -32768 := by decide
  have e2 : (32767 : Int64).toInt = 32767 := by decide
  unfold zf_X11_cut zz_cut
  simp only [zb_le, e1, e2]
  split <;> split <;> (try split) <;> omega
theorem zq_wide {a : Int64} {x : Int} (h : a.toInt = x) : (zf_X11_wide a).toInt = zz_wide x := by
  subst h
  have e1 : (-2147483648 : Int64).toInt = -2147483648 := by decide
  have e2 : (2147483647 : Int64).toInt = 2147483647 := by decide
  unfold zf_X11_wide zz_wide
  simp only [zb_le, e1, e2]
  split <;> split <;> (try split) <;> omega
theorem zq_rounded {a b : Int64} {x y : Int} (ha : a.toInt = x) (hb : b.toInt = y) (hx1 : -1000000000 ≤ x) (hx2 : x ≤ 1000000000) (hy1 : -1000000000 ≤ y) (hy2 : y ≤ 1000000000) : (zf_X11_rounded a b).toInt = zz_M x y := by
  have hm := zn_mul (A := 1000000000) (B := 1000000000) hx1 hx2 hy1 hy2
  have e := zb_mul ha hb (by omega) (by omega)
  have e1 : (a * b + (16384 : Int64)).toInt = x * y + 16384 := zb_add e (by decide : (16384 : Int64).toInt = 16384) (by omega) (by omega)
  have e2 := zb_sr (n := 15) 15 32768 e1 (by decide) (by decide) (by decide)
  unfold zf_X11_rounded zc_lt
  exact zq_cut e2
theorem zq_lower {a b : Int64} {x y : Int} (ha : a.toInt = x) (hb : b.toInt = y) (hx1 : -1000000000 ≤ x) (hx2 : x ≤ 1000000000) (hy1 : -1000000000 ≤ y) (hy2 : y ≤ 1000000000) : (zf_X11_lower a b).toInt = zz_L x y := by
  have hm := zn_mul (A := 1000000000) (B := 1000000000) hx1 hx2 hy1 hy2
  have e := zb_mul ha hb (by omega) (by omega)
  have e2 := zb_sr (n := 15) 15 32768 e (by decide) (by decide) (by decide)
  exact zq_cut e2
theorem zq_size {a : Int64} {x : Int} (h : a.toInt = x) (h1 : -9223372036854775808 < x) : (zf_X11_size a).toInt = zz_size x := by
  unfold zf_X11_size zz_size
  have e0 : (0 : Int64).toInt = 0 := rfl
  simp only [zb_le, e0, h, zc_lt]
  split
  · rw [zq_cut h, if_neg (by omega)]
  · rw [zq_cut (zb_neg h h1), if_pos (by omega)]
