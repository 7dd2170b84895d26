/-! the law, turn after turn -/
section ZM
variable {R : Type} {T : Option R → Prop} {k : Int32} {x : Option R}
theorem zT_k1 (h : k = 0 ∨ k = 1) (hx : T x) : T (zc_k1 k x) := by unfold zc_k1; rw [if_pos h]; exact hx
theorem zT_k2 (h : k = 0 ∨ k = 2) (hx : T x) : T (zc_k2 k x) := by unfold zc_k2; rw [if_pos h]; exact hx
theorem zT_k3 (h : k = 0 ∨ k = 1 ∨ k = 2) (hx : T x) : T (zc_k3 k x) := by unfold zc_k3; rw [if_pos h]; exact hx
end ZM
theorem zm_go {rec : zs_T → Int32 → Option zs_T} {T : Option zs_T → Prop} {x4 : Int32} {S : zs_T} (h : T (rec S (x4 + (4 : Int32)))) : T (zc_lt (x4 + (4 : Int32)) (fun (v : Int32) => rec S v)) := h
theorem zm_tail {rec : zs_T → Int32 → Option zs_T} {T : Option zs_T → Prop} {x4 k v : Int32} {S : zs_T} (h : zR k (v, S)) (hR : ∀ S1, zI S1 → T (rec S1 (x4 + (4 : Int32)))) :
    T (zc_b1 (zf_X11_thrown S) (fun v8 => (if v8 = k then (if k = 0 then zc_gi (0 : Int32) 1 ((if (S.2 59 (Int32.toNatClampNeg (0 : Int32))) = (Int32.toInt64 v) then zc_lt (x4 + (4 : Int32)) (fun (v10 : Int32) => rec S v10) else none)) else zc_lt (x4 + (4 : Int32)) (fun (v9 : Int32) => rec S v9)) else none))) := by
  obtain ⟨h1, h2, h3⟩ := h
  have h1 : S.1 40 0 = k := h1
  have h2 : k = 0 → S.2 59 0 = Int32.toInt64 v := h2
  have h3 : zI S := h3
  refine zT_b1 (P := fun v8 => v8 = k) ⟨_, rfl, h1⟩ (fun v8 e8 => zT_ift e8 (zT_if (fun c => zT_gi zc_c0 (by omega) (zT_ift ?_ (zm_go (hR S h3)))) (fun c => zm_go (hR S h3))))
  exact h2 c
theorem zm_step (xs : Nat → Int32) (L i : Nat) (hL : L ≤ 2048) (S : zs_T) (h : zI S) (rec : zs_T → Int32 → Option zs_T) (T : Option zs_T → Prop) (x4 : Int32) (g0 : x4.toInt = ((4 * i : Nat) : Int)) (g1 : (x4 + (1 : Int32)).toInt = ((4 * i + 1 : Nat) : Int)) (g2 : (x4 + (2 : Int32)).toInt = ((4 * i + 2 : Nat) : Int)) (g3 : (x4 + (3 : Int32)).toInt = ((4 * i + 3 : Nat) : Int))
    (hF : T (some S)) (hR : 4 * i + 4 ≤ L → ∀ S1, zI S1 → T (rec S1 (x4 + (4 : Int32)))) : T (zb_L_law xs L rec S x4) := by
  unfold zb_L_law
  refine zT_if (fun _ => hF) (fun c => ?_)
  rw [za_lt, za_sub (za_ofNat (by omega)) (show (4 : Int32).toInt = 4 by decide) (by omega) (by omega), g0] at c
  have hi : 4 * i + 4 ≤ L := by omega
  have hR := hR hi
  refine zT_gi g0 (by omega) (zT_lt (fun v1 _ => zT_if (fun _ => ?_) (fun _ => zT_if (fun _ => ?_) (fun _ => zT_if (fun _ => ?_) (fun _ => zT_if (fun _ => ?_) (fun _ => zT_if (fun _ => ?_) (fun _ => zT_if (fun _ => ?_) (fun _ => zT_if (fun _ => ?_) (fun _ => zT_if (fun _ => ?_) (fun _ => zT_if (fun _ => ?_) (fun _ => zT_if (fun _ => ?_) (fun _ => zT_if (fun _ => ?_) (fun _ => zT_if (fun _ => ?_) (fun _ => zm_go (hR S h)))))))))))))))
  · refine zT_gi g1 (by omega) (zT_b3 (zp_put S h _) (fun k r S4 hO => zT_k3 hO.1 (zT_lt (fun S5 e5 => zT_gi g1 (by omega) (zT_b2 (P := zR k) ?_ (fun v6 S7 h7 => zm_tail h7 hR))))))
    rw [e5]; exact hO.2
  · refine zT_gi g1 (by omega) (zT_gi g2 (by omega) (zT_gi g3 (by omega) (zT_b3 (zp_fill S h _ _ _) (fun k r S4 hO => zT_k3 hO.1 (zT_lt (fun S5 e5 => zT_gi g1 (by omega) (zT_gi g2 (by omega) (zT_gi g3 (by omega) (zT_b2 (P := zR k) ?_ (fun v6 S7 h7 => zm_tail h7 hR))))))))))
    rw [e5]; exact hO.2
  · refine zT_b3 (zp_encode S h) (fun k r S4 hO => zT_k2 hO.1 (zT_lt (fun S5 e5 => zT_lt (fun w ew => zT_b2 (P := zR w) ?_ (fun v6 S7 h7 => zm_tail h7 hR)))))
    rw [e5, ew]; exact hO.2
  · refine zT_gi g1 (by omega) (zT_b3 (zp_parameter S h _) (fun k r S4 hO => zT_k1 hO.1 (zT_lt (fun S5 e5 => zT_gi g1 (by omega) (zT_b2 (P := zR k) ?_ (fun v6 S7 h7 => zm_tail h7 hR))))))
    rw [e5]; exact hO.2
  · refine zT_gi g1 (by omega) (zT_gi g2 (by omega) (zT_gi g3 (by omega) (zT_b3 (zp_feed S h _ _) (fun k r S4 hO => zT_k3 hO.1 (zT_lt (fun S5 e5 => zT_gi g1 (by omega) (zT_gi g2 (by omega) (zT_gi g3 (by omega) (zT_b2 (P := zR k) ?_ (fun v6 S7 h7 => zm_tail h7 hR))))))))))
    rw [e5]; exact hO.2
  · exact zT_b2 (zp_take S h) (fun v S1 hq => zT_b2 hq (fun w S2 h2 => zT_ift h2.1 (zm_go (hR S2 h2.2))))
  · exact zT_b2 (zp_decode S h) (fun v S1 hq => zT_b2 hq (fun w S2 h2 => zT_ift h2.1 (zm_go (hR S2 h2.2))))
  · exact zT_gi g1 (by omega) (zT_b1 (zp_hand S h _) (fun v hq => zT_gi g1 (by omega) (zT_b2 hq (fun w S2 h2 => zT_ift h2.1 (zm_go (hR S2 h2.2))))))
  · refine zT_gi g1 (by omega) (zT_b3 (zp_sample S h _) (fun k r S4 hO => zT_k1 hO.1 (zT_lt (fun S5 e5 => zT_gi g1 (by omega) (zT_b2 (P := zR k) ?_ (fun v6 S7 h7 => zm_tail h7 hR))))))
    rw [e5]; exact hO.2
  · refine zT_gi g1 (by omega) (zT_b3 (zp_reset S h _) (fun k r S4 hO => zT_k1 hO.1 (zT_lt (fun S5 e5 => zT_gi g1 (by omega) (zT_b1 (P := fun S1 => S1.1 40 0 = k ∧ zI S1) ?_ (fun S7 h7 => zT_b1 (P := fun v8 => v8 = k) ⟨_, rfl, h7.1⟩ (fun v8 e8 => zT_ift e8 (zm_go (hR S7 h7.2)))))))))
    rw [e5]; exact hO.2
  · refine zT_gi g1 (by omega) (zT_gi g2 (by omega) (zT_b3 (zp_state S h _ _) (fun k r S4 hO => zT_k1 hO.1 (zT_lt (fun S5 e5 => zT_gi g1 (by omega) (zT_gi g2 (by omega) (zT_b2 (P := zR k) ?_ (fun v6 S7 h7 => zm_tail h7 hR))))))))
    rw [e5]; exact hO.2
  · refine zT_gi g1 (by omega) (zT_b3 (zp_about S h _) (fun k r S4 hO => zT_k1 hO.1 (zT_lt (fun S5 e5 => zT_gi g1 (by omega) (zT_b2 (P := zR k) ?_ (fun v6 S7 h7 => zm_tail h7 hR))))))
    rw [e5]; exact hO.2
theorem zp_main (xs : Nat → Int32) (L : Nat) (hL : L ≤ 2048) : ∃ oS, zl_2 (zb_L_law xs L) 600 zs_0 0 = some oS := by
  have q : zQ (fun _ => True) (zl_2 (zb_L_law xs L) 600 zs_0 0) := by
    refine zQ_wh2 (zb_L_law xs L) 512 (fun i S x => i ≤ 512 ∧ zI S ∧ x = nI (4 * i)) (fun _ => True) ?_ 600 0 zs_0 0 (by omega) (by omega) ⟨by omega, zI_0, rfl⟩
    intro i S x hP rec T hF hR
    obtain ⟨hi, h, ex⟩ := hP
    have g : x.toInt = ((4 * i : Nat) : Int) := by rw [ex]; exact za_nI (by omega)
    refine zm_step xs L i hL S h rec T x g ?_ ?_ ?_ (hF S trivial) (fun hb S1 h1 => hR S1 _ (by omega) ⟨by omega, h1, za_of ?_⟩)
    · rw [za_add g (show (1 : Int32).toInt = 1 by decide) (by omega) (by omega)]; omega
    · rw [za_add g (show (2 : Int32).toInt = 2 by decide) (by omega) (by omega)]; omega
    · rw [za_add g (show (3 : Int32).toInt = 3 by decide) (by omega) (by omega)]; omega
    · rw [za_add g (show (4 : Int32).toInt = 4 by decide) (by omega) (by omega)]; omega
  obtain ⟨r, e, -⟩ := q
  exact ⟨r, e⟩
