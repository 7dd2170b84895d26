theorem zp_main (xs : Nat → Int32) (L : Nat) (hL : L ≤ 2048) : ∃ oS, zl_2 (zb_L_law xs L) 600 zs_0 0 = some oS := by
  sorry
