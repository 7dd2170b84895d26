/-! the law's whole world, one state of ints and longs; names of my own begin with z -/
abbrev zs_T : Type := (Nat → Nat → Int32) × (Nat → Nat → Int64)
def zs_ri (S : zs_T) (k : Nat) (f : Nat → Int32) : zs_T := (va_up S.1 k f, S.2)
def zs_rl (S : zs_T) (k : Nat) (f : Nat → Int64) : zs_T := (S.1, va_up S.2 k f)
abbrev zs_wi (S : zs_T) (k j : Nat) (v : Int32) : zs_T := zs_ri S k (upd (S.1 k) j v)
abbrev zs_wl (S : zs_T) (k j : Nat) (v : Int64) : zs_T := zs_rl S k (vp_updL (S.2 k) j v)
abbrev zg_T : Type := va_G × ClassId × ClassId × (Nat → Nat) × (Nat → Nat) × Nat
abbrev zg_D (G : zg_T) : va_G := G.1
abbrev zg_I (G : zg_T) : ClassId := G.2.1
abbrev zg_J (G : zg_T) : ClassId := G.2.2.1
abbrev zg_q (G : zg_T) : Nat → Nat := G.2.2.2.1
abbrev zg_t (G : zg_T) : Nat → Nat := G.2.2.2.2.1
abbrev zg_b (G : zg_T) : Nat := G.2.2.2.2.2
def zg_A (G : zg_T) : Nat → Prop := fun x => zg_b G ≤ x
def zw_L (G : zg_T) (S : zs_T) : va_W := [
  ((zg_q G 0), .inr (9, [.ref (zg_q G 1), .ref (zg_q G 2), .ref (zg_q G 3), .ref (zg_q G 4), .ref (zg_q G 5), .ref (zg_q G 29), .int (S.1 0 6), .int (S.1 0 7)])),
  ((zg_q G 1), .inl (zg_I G, 160, .inl (S.1 1))),
  ((zg_q G 2), .inl (zg_I G, 33, .inl (S.1 2))),
  ((zg_q G 3), .inl (zg_I G, 76, .inl (S.1 3))),
  ((zg_q G 4), .inl (zg_I G, 160, .inl (S.1 4))),
  ((zg_q G 5), .inr (1, [.ref (zg_q G 8), .ref (zg_q G 9), .ref (zg_q G 15), .ref (zg_q G 19), .ref (zg_q G 22), .ref (zg_q G 24), .ref (zg_q G 27), .ref (zg_q G 6), .ref (zg_q G 7), .int (S.1 5 9)])),
  ((zg_q G 6), .inl (zg_I G, 160, .inl (S.1 6))),
  ((zg_q G 7), .inl (zg_I G, 8, .inl (S.1 7))),
  ((zg_q G 8), .inr (3, [.int (S.1 8 0), .int (S.1 8 1), .int (S.1 8 2)])),
  ((zg_q G 9), .inr (5, [.ref (zg_q G 10), .ref (zg_q G 11), .ref (zg_q G 12), .ref (zg_q G 13), .ref (zg_q G 14)])),
  ((zg_q G 10), .inl (zg_I G, 160, .inl (S.1 10))),
  ((zg_q G 11), .inl (zg_I G, 9, .inl (S.1 11))),
  ((zg_q G 12), .inl (zg_I G, 9, .inl (S.1 12))),
  ((zg_q G 13), .inl (zg_I G, 9, .inl (S.1 13))),
  ((zg_q G 14), .inl (zg_I G, 8, .inl (S.1 14))),
  ((zg_q G 15), .inr (2, [.ref (zg_q G 16), .ref (zg_q G 17), .ref (zg_q G 18)])),
  ((zg_q G 16), .inl (zg_I G, 8, .inl (S.1 16))),
  ((zg_q G 17), .inl (zg_I G, 8, .inl (S.1 17))),
  ((zg_q G 18), .inl (zg_I G, 8, .inl (S.1 18))),
  ((zg_q G 19), .inr (4, [.ref (zg_q G 20), .ref (zg_q G 21)])),
  ((zg_q G 20), .inl (zg_I G, 280, .inl (S.1 20))),
  ((zg_q G 21), .inl (zg_I G, 40, .inl (S.1 21))),
  ((zg_q G 22), .inr (7, [.ref (zg_q G 23), .int (S.1 22 1), .int (S.1 22 2)])),
  ((zg_q G 23), .inl (zg_I G, 40, .inl (S.1 23))),
  ((zg_q G 24), .inr (8, [.ref (zg_q G 25), .ref (zg_q G 26), .int (S.1 24 2), .int (S.1 24 3)])),
  ((zg_q G 25), .inl (zg_I G, 50, .inl (S.1 25))),
  ((zg_q G 26), .inl (zg_I G, 40, .inl (S.1 26))),
  ((zg_q G 27), .inr (6, [.ref (zg_q G 28), .int (S.1 27 1), .int (S.1 27 2)])),
  ((zg_q G 28), .inl (zg_I G, 40, .inl (S.1 28))),
  ((zg_q G 29), .inr (0, [.ref (zg_q G 31), .ref (zg_q G 35), .ref (zg_q G 38), .ref (zg_q G 30), .int (S.1 29 4), .int (S.1 29 5), .int (S.1 29 6)])),
  ((zg_q G 30), .inl (zg_I G, 9, .inl (S.1 30))),
  ((zg_q G 31), .inr (2, [.ref (zg_q G 32), .ref (zg_q G 33), .ref (zg_q G 34)])),
  ((zg_q G 32), .inl (zg_I G, 8, .inl (S.1 32))),
  ((zg_q G 33), .inl (zg_I G, 8, .inl (S.1 33))),
  ((zg_q G 34), .inl (zg_I G, 8, .inl (S.1 34))),
  ((zg_q G 35), .inr (4, [.ref (zg_q G 36), .ref (zg_q G 37)])),
  ((zg_q G 36), .inl (zg_I G, 280, .inl (S.1 36))),
  ((zg_q G 37), .inl (zg_I G, 40, .inl (S.1 37))),
  ((zg_q G 38), .inr (6, [.ref (zg_q G 39), .int (S.1 38 1), .int (S.1 38 2)])),
  ((zg_q G 39), .inl (zg_I G, 40, .inl (S.1 39))),
  ((zg_q G 40), .inr (10, [.int (S.1 40 0), .int (S.1 40 1), .ref (zg_q G 41), .int (S.1 40 3), .ref (zg_q G 42), .ref (zg_q G 43), .ref (zg_q G 44), .int (S.1 40 7), .int (S.1 40 8), .long (S.2 40 9), .long (S.2 40 10), .long (S.2 40 11), .ref (zg_q G 45), .ref (zg_q G 46), .ref (zg_q G 47), .ref (zg_q G 48), .int (S.1 40 16), .long (S.2 40 17), .ref (zg_q G 49), .ref (zg_q G 50), .ref (zg_q G 51), .ref (zg_q G 52), .ref (zg_q G 53), .ref (zg_q G 54), .ref (zg_q G 55), .ref (zg_q G 56), .ref (zg_q G 57), .ref (zg_q G 58), .int (S.1 40 28), .int (S.1 40 29)])),
  ((zg_q G 41), .inl (zg_J G, 160, .inr (.inl (S.2 41)))),
  ((zg_q G 42), .inl (zg_I G, 33, .inl (S.1 42))),
  ((zg_q G 43), .inl (zg_I G, 76, .inl (S.1 43))),
  ((zg_q G 44), .inl (zg_I G, 160, .inl (S.1 44))),
  ((zg_q G 45), .inl (zg_J G, 16, .inr (.inl (S.2 45)))),
  ((zg_q G 46), .inl (zg_J G, 9, .inr (.inl (S.2 46)))),
  ((zg_q G 47), .inl (zg_J G, 9, .inr (.inl (S.2 47)))),
  ((zg_q G 48), .inl (zg_J G, 560, .inr (.inl (S.2 48)))),
  ((zg_q G 49), .inl (zg_J G, 160, .inr (.inl (S.2 49)))),
  ((zg_q G 50), .inl (zg_J G, 160, .inr (.inl (S.2 50)))),
  ((zg_q G 51), .inl (zg_J G, 40, .inr (.inl (S.2 51)))),
  ((zg_q G 52), .inl (zg_J G, 40, .inr (.inl (S.2 52)))),
  ((zg_q G 53), .inl (zg_J G, 9, .inr (.inl (S.2 53)))),
  ((zg_q G 54), .inl (zg_J G, 10, .inr (.inl (S.2 54)))),
  ((zg_q G 55), .inl (zg_J G, 10, .inr (.inl (S.2 55)))),
  ((zg_q G 56), .inl (zg_J G, 9, .inr (.inl (S.2 56)))),
  ((zg_q G 57), .inl (zg_J G, 8, .inr (.inl (S.2 57)))),
  ((zg_q G 58), .inl (zg_J G, 40, .inr (.inl (S.2 58)))),
  ((zg_q G 59), .inl (zg_J G, 1, .inr (.inl (S.2 59))))]
theorem zw_g0 (G : zg_T) (S : zs_T) : (zw_L G S)[0]? = some ((zg_q G 0), .inr (9, [.ref (zg_q G 1), .ref (zg_q G 2), .ref (zg_q G 3), .ref (zg_q G 4), .ref (zg_q G 5), .ref (zg_q G 29), .int (S.1 0 6), .int (S.1 0 7)])) := rfl
theorem zw_f0_6 (G : zg_T) (S : zs_T) (v : Int32) : (zw_L G S).set 0 ((zg_q G 0), .inr (9, ([.ref (zg_q G 1), .ref (zg_q G 2), .ref (zg_q G 3), .ref (zg_q G 4), .ref (zg_q G 5), .ref (zg_q G 29), .int (S.1 0 6), .int (S.1 0 7)] : List Value).set 6 (.int v))) = zw_L G (zs_wi S 0 6 v) := rfl
theorem zw_f0_7 (G : zg_T) (S : zs_T) (v : Int32) : (zw_L G S).set 0 ((zg_q G 0), .inr (9, ([.ref (zg_q G 1), .ref (zg_q G 2), .ref (zg_q G 3), .ref (zg_q G 4), .ref (zg_q G 5), .ref (zg_q G 29), .int (S.1 0 6), .int (S.1 0 7)] : List Value).set 7 (.int v))) = zw_L G (zs_wi S 0 7 v) := rfl
theorem zw_g1 (G : zg_T) (S : zs_T) : (zw_L G S)[1]? = some ((zg_q G 1), .inl (zg_I G, 160, .inl (S.1 1))) := rfl
theorem zw_s1 (G : zg_T) (S : zs_T) (f : Nat → Int32) : (zw_L G S).set 1 ((zg_q G 1), .inl (zg_I G, 160, .inl f)) = zw_L G (zs_ri S 1 f) := rfl
theorem zw_g2 (G : zg_T) (S : zs_T) : (zw_L G S)[2]? = some ((zg_q G 2), .inl (zg_I G, 33, .inl (S.1 2))) := rfl
theorem zw_s2 (G : zg_T) (S : zs_T) (f : Nat → Int32) : (zw_L G S).set 2 ((zg_q G 2), .inl (zg_I G, 33, .inl f)) = zw_L G (zs_ri S 2 f) := rfl
theorem zw_g3 (G : zg_T) (S : zs_T) : (zw_L G S)[3]? = some ((zg_q G 3), .inl (zg_I G, 76, .inl (S.1 3))) := rfl
theorem zw_s3 (G : zg_T) (S : zs_T) (f : Nat → Int32) : (zw_L G S).set 3 ((zg_q G 3), .inl (zg_I G, 76, .inl f)) = zw_L G (zs_ri S 3 f) := rfl
theorem zw_g4 (G : zg_T) (S : zs_T) : (zw_L G S)[4]? = some ((zg_q G 4), .inl (zg_I G, 160, .inl (S.1 4))) := rfl
theorem zw_s4 (G : zg_T) (S : zs_T) (f : Nat → Int32) : (zw_L G S).set 4 ((zg_q G 4), .inl (zg_I G, 160, .inl f)) = zw_L G (zs_ri S 4 f) := rfl
theorem zw_g5 (G : zg_T) (S : zs_T) : (zw_L G S)[5]? = some ((zg_q G 5), .inr (1, [.ref (zg_q G 8), .ref (zg_q G 9), .ref (zg_q G 15), .ref (zg_q G 19), .ref (zg_q G 22), .ref (zg_q G 24), .ref (zg_q G 27), .ref (zg_q G 6), .ref (zg_q G 7), .int (S.1 5 9)])) := rfl
theorem zw_f5_9 (G : zg_T) (S : zs_T) (v : Int32) : (zw_L G S).set 5 ((zg_q G 5), .inr (1, ([.ref (zg_q G 8), .ref (zg_q G 9), .ref (zg_q G 15), .ref (zg_q G 19), .ref (zg_q G 22), .ref (zg_q G 24), .ref (zg_q G 27), .ref (zg_q G 6), .ref (zg_q G 7), .int (S.1 5 9)] : List Value).set 9 (.int v))) = zw_L G (zs_wi S 5 9 v) := rfl
theorem zw_g6 (G : zg_T) (S : zs_T) : (zw_L G S)[6]? = some ((zg_q G 6), .inl (zg_I G, 160, .inl (S.1 6))) := rfl
theorem zw_s6 (G : zg_T) (S : zs_T) (f : Nat → Int32) : (zw_L G S).set 6 ((zg_q G 6), .inl (zg_I G, 160, .inl f)) = zw_L G (zs_ri S 6 f) := rfl
theorem zw_g7 (G : zg_T) (S : zs_T) : (zw_L G S)[7]? = some ((zg_q G 7), .inl (zg_I G, 8, .inl (S.1 7))) := rfl
theorem zw_s7 (G : zg_T) (S : zs_T) (f : Nat → Int32) : (zw_L G S).set 7 ((zg_q G 7), .inl (zg_I G, 8, .inl f)) = zw_L G (zs_ri S 7 f) := rfl
theorem zw_g8 (G : zg_T) (S : zs_T) : (zw_L G S)[8]? = some ((zg_q G 8), .inr (3, [.int (S.1 8 0), .int (S.1 8 1), .int (S.1 8 2)])) := rfl
theorem zw_f8_0 (G : zg_T) (S : zs_T) (v : Int32) : (zw_L G S).set 8 ((zg_q G 8), .inr (3, ([.int (S.1 8 0), .int (S.1 8 1), .int (S.1 8 2)] : List Value).set 0 (.int v))) = zw_L G (zs_wi S 8 0 v) := rfl
theorem zw_f8_1 (G : zg_T) (S : zs_T) (v : Int32) : (zw_L G S).set 8 ((zg_q G 8), .inr (3, ([.int (S.1 8 0), .int (S.1 8 1), .int (S.1 8 2)] : List Value).set 1 (.int v))) = zw_L G (zs_wi S 8 1 v) := rfl
theorem zw_f8_2 (G : zg_T) (S : zs_T) (v : Int32) : (zw_L G S).set 8 ((zg_q G 8), .inr (3, ([.int (S.1 8 0), .int (S.1 8 1), .int (S.1 8 2)] : List Value).set 2 (.int v))) = zw_L G (zs_wi S 8 2 v) := rfl
theorem zw_g9 (G : zg_T) (S : zs_T) : (zw_L G S)[9]? = some ((zg_q G 9), .inr (5, [.ref (zg_q G 10), .ref (zg_q G 11), .ref (zg_q G 12), .ref (zg_q G 13), .ref (zg_q G 14)])) := rfl
theorem zw_g10 (G : zg_T) (S : zs_T) : (zw_L G S)[10]? = some ((zg_q G 10), .inl (zg_I G, 160, .inl (S.1 10))) := rfl
theorem zw_s10 (G : zg_T) (S : zs_T) (f : Nat → Int32) : (zw_L G S).set 10 ((zg_q G 10), .inl (zg_I G, 160, .inl f)) = zw_L G (zs_ri S 10 f) := rfl
theorem zw_g11 (G : zg_T) (S : zs_T) : (zw_L G S)[11]? = some ((zg_q G 11), .inl (zg_I G, 9, .inl (S.1 11))) := rfl
theorem zw_s11 (G : zg_T) (S : zs_T) (f : Nat → Int32) : (zw_L G S).set 11 ((zg_q G 11), .inl (zg_I G, 9, .inl f)) = zw_L G (zs_ri S 11 f) := rfl
theorem zw_g12 (G : zg_T) (S : zs_T) : (zw_L G S)[12]? = some ((zg_q G 12), .inl (zg_I G, 9, .inl (S.1 12))) := rfl
theorem zw_s12 (G : zg_T) (S : zs_T) (f : Nat → Int32) : (zw_L G S).set 12 ((zg_q G 12), .inl (zg_I G, 9, .inl f)) = zw_L G (zs_ri S 12 f) := rfl
theorem zw_g13 (G : zg_T) (S : zs_T) : (zw_L G S)[13]? = some ((zg_q G 13), .inl (zg_I G, 9, .inl (S.1 13))) := rfl
theorem zw_s13 (G : zg_T) (S : zs_T) (f : Nat → Int32) : (zw_L G S).set 13 ((zg_q G 13), .inl (zg_I G, 9, .inl f)) = zw_L G (zs_ri S 13 f) := rfl
theorem zw_g14 (G : zg_T) (S : zs_T) : (zw_L G S)[14]? = some ((zg_q G 14), .inl (zg_I G, 8, .inl (S.1 14))) := rfl
theorem zw_s14 (G : zg_T) (S : zs_T) (f : Nat → Int32) : (zw_L G S).set 14 ((zg_q G 14), .inl (zg_I G, 8, .inl f)) = zw_L G (zs_ri S 14 f) := rfl
theorem zw_g15 (G : zg_T) (S : zs_T) : (zw_L G S)[15]? = some ((zg_q G 15), .inr (2, [.ref (zg_q G 16), .ref (zg_q G 17), .ref (zg_q G 18)])) := rfl
theorem zw_g16 (G : zg_T) (S : zs_T) : (zw_L G S)[16]? = some ((zg_q G 16), .inl (zg_I G, 8, .inl (S.1 16))) := rfl
theorem zw_s16 (G : zg_T) (S : zs_T) (f : Nat → Int32) : (zw_L G S).set 16 ((zg_q G 16), .inl (zg_I G, 8, .inl f)) = zw_L G (zs_ri S 16 f) := rfl
theorem zw_g17 (G : zg_T) (S : zs_T) : (zw_L G S)[17]? = some ((zg_q G 17), .inl (zg_I G, 8, .inl (S.1 17))) := rfl
theorem zw_s17 (G : zg_T) (S : zs_T) (f : Nat → Int32) : (zw_L G S).set 17 ((zg_q G 17), .inl (zg_I G, 8, .inl f)) = zw_L G (zs_ri S 17 f) := rfl
theorem zw_g18 (G : zg_T) (S : zs_T) : (zw_L G S)[18]? = some ((zg_q G 18), .inl (zg_I G, 8, .inl (S.1 18))) := rfl
theorem zw_s18 (G : zg_T) (S : zs_T) (f : Nat → Int32) : (zw_L G S).set 18 ((zg_q G 18), .inl (zg_I G, 8, .inl f)) = zw_L G (zs_ri S 18 f) := rfl
theorem zw_g19 (G : zg_T) (S : zs_T) : (zw_L G S)[19]? = some ((zg_q G 19), .inr (4, [.ref (zg_q G 20), .ref (zg_q G 21)])) := rfl
theorem zw_g20 (G : zg_T) (S : zs_T) : (zw_L G S)[20]? = some ((zg_q G 20), .inl (zg_I G, 280, .inl (S.1 20))) := rfl
theorem zw_s20 (G : zg_T) (S : zs_T) (f : Nat → Int32) : (zw_L G S).set 20 ((zg_q G 20), .inl (zg_I G, 280, .inl f)) = zw_L G (zs_ri S 20 f) := rfl
theorem zw_g21 (G : zg_T) (S : zs_T) : (zw_L G S)[21]? = some ((zg_q G 21), .inl (zg_I G, 40, .inl (S.1 21))) := rfl
theorem zw_s21 (G : zg_T) (S : zs_T) (f : Nat → Int32) : (zw_L G S).set 21 ((zg_q G 21), .inl (zg_I G, 40, .inl f)) = zw_L G (zs_ri S 21 f) := rfl
theorem zw_g22 (G : zg_T) (S : zs_T) : (zw_L G S)[22]? = some ((zg_q G 22), .inr (7, [.ref (zg_q G 23), .int (S.1 22 1), .int (S.1 22 2)])) := rfl
theorem zw_f22_1 (G : zg_T) (S : zs_T) (v : Int32) : (zw_L G S).set 22 ((zg_q G 22), .inr (7, ([.ref (zg_q G 23), .int (S.1 22 1), .int (S.1 22 2)] : List Value).set 1 (.int v))) = zw_L G (zs_wi S 22 1 v) := rfl
theorem zw_f22_2 (G : zg_T) (S : zs_T) (v : Int32) : (zw_L G S).set 22 ((zg_q G 22), .inr (7, ([.ref (zg_q G 23), .int (S.1 22 1), .int (S.1 22 2)] : List Value).set 2 (.int v))) = zw_L G (zs_wi S 22 2 v) := rfl
theorem zw_g23 (G : zg_T) (S : zs_T) : (zw_L G S)[23]? = some ((zg_q G 23), .inl (zg_I G, 40, .inl (S.1 23))) := rfl
theorem zw_s23 (G : zg_T) (S : zs_T) (f : Nat → Int32) : (zw_L G S).set 23 ((zg_q G 23), .inl (zg_I G, 40, .inl f)) = zw_L G (zs_ri S 23 f) := rfl
theorem zw_g24 (G : zg_T) (S : zs_T) : (zw_L G S)[24]? = some ((zg_q G 24), .inr (8, [.ref (zg_q G 25), .ref (zg_q G 26), .int (S.1 24 2), .int (S.1 24 3)])) := rfl
theorem zw_f24_2 (G : zg_T) (S : zs_T) (v : Int32) : (zw_L G S).set 24 ((zg_q G 24), .inr (8, ([.ref (zg_q G 25), .ref (zg_q G 26), .int (S.1 24 2), .int (S.1 24 3)] : List Value).set 2 (.int v))) = zw_L G (zs_wi S 24 2 v) := rfl
theorem zw_f24_3 (G : zg_T) (S : zs_T) (v : Int32) : (zw_L G S).set 24 ((zg_q G 24), .inr (8, ([.ref (zg_q G 25), .ref (zg_q G 26), .int (S.1 24 2), .int (S.1 24 3)] : List Value).set 3 (.int v))) = zw_L G (zs_wi S 24 3 v) := rfl
theorem zw_g25 (G : zg_T) (S : zs_T) : (zw_L G S)[25]? = some ((zg_q G 25), .inl (zg_I G, 50, .inl (S.1 25))) := rfl
theorem zw_s25 (G : zg_T) (S : zs_T) (f : Nat → Int32) : (zw_L G S).set 25 ((zg_q G 25), .inl (zg_I G, 50, .inl f)) = zw_L G (zs_ri S 25 f) := rfl
theorem zw_g26 (G : zg_T) (S : zs_T) : (zw_L G S)[26]? = some ((zg_q G 26), .inl (zg_I G, 40, .inl (S.1 26))) := rfl
theorem zw_s26 (G : zg_T) (S : zs_T) (f : Nat → Int32) : (zw_L G S).set 26 ((zg_q G 26), .inl (zg_I G, 40, .inl f)) = zw_L G (zs_ri S 26 f) := rfl
theorem zw_g27 (G : zg_T) (S : zs_T) : (zw_L G S)[27]? = some ((zg_q G 27), .inr (6, [.ref (zg_q G 28), .int (S.1 27 1), .int (S.1 27 2)])) := rfl
theorem zw_f27_1 (G : zg_T) (S : zs_T) (v : Int32) : (zw_L G S).set 27 ((zg_q G 27), .inr (6, ([.ref (zg_q G 28), .int (S.1 27 1), .int (S.1 27 2)] : List Value).set 1 (.int v))) = zw_L G (zs_wi S 27 1 v) := rfl
theorem zw_f27_2 (G : zg_T) (S : zs_T) (v : Int32) : (zw_L G S).set 27 ((zg_q G 27), .inr (6, ([.ref (zg_q G 28), .int (S.1 27 1), .int (S.1 27 2)] : List Value).set 2 (.int v))) = zw_L G (zs_wi S 27 2 v) := rfl
theorem zw_g28 (G : zg_T) (S : zs_T) : (zw_L G S)[28]? = some ((zg_q G 28), .inl (zg_I G, 40, .inl (S.1 28))) := rfl
theorem zw_s28 (G : zg_T) (S : zs_T) (f : Nat → Int32) : (zw_L G S).set 28 ((zg_q G 28), .inl (zg_I G, 40, .inl f)) = zw_L G (zs_ri S 28 f) := rfl
theorem zw_g29 (G : zg_T) (S : zs_T) : (zw_L G S)[29]? = some ((zg_q G 29), .inr (0, [.ref (zg_q G 31), .ref (zg_q G 35), .ref (zg_q G 38), .ref (zg_q G 30), .int (S.1 29 4), .int (S.1 29 5), .int (S.1 29 6)])) := rfl
theorem zw_f29_4 (G : zg_T) (S : zs_T) (v : Int32) : (zw_L G S).set 29 ((zg_q G 29), .inr (0, ([.ref (zg_q G 31), .ref (zg_q G 35), .ref (zg_q G 38), .ref (zg_q G 30), .int (S.1 29 4), .int (S.1 29 5), .int (S.1 29 6)] : List Value).set 4 (.int v))) = zw_L G (zs_wi S 29 4 v) := rfl
theorem zw_f29_5 (G : zg_T) (S : zs_T) (v : Int32) : (zw_L G S).set 29 ((zg_q G 29), .inr (0, ([.ref (zg_q G 31), .ref (zg_q G 35), .ref (zg_q G 38), .ref (zg_q G 30), .int (S.1 29 4), .int (S.1 29 5), .int (S.1 29 6)] : List Value).set 5 (.int v))) = zw_L G (zs_wi S 29 5 v) := rfl
theorem zw_f29_6 (G : zg_T) (S : zs_T) (v : Int32) : (zw_L G S).set 29 ((zg_q G 29), .inr (0, ([.ref (zg_q G 31), .ref (zg_q G 35), .ref (zg_q G 38), .ref (zg_q G 30), .int (S.1 29 4), .int (S.1 29 5), .int (S.1 29 6)] : List Value).set 6 (.int v))) = zw_L G (zs_wi S 29 6 v) := rfl
theorem zw_g30 (G : zg_T) (S : zs_T) : (zw_L G S)[30]? = some ((zg_q G 30), .inl (zg_I G, 9, .inl (S.1 30))) := rfl
theorem zw_s30 (G : zg_T) (S : zs_T) (f : Nat → Int32) : (zw_L G S).set 30 ((zg_q G 30), .inl (zg_I G, 9, .inl f)) = zw_L G (zs_ri S 30 f) := rfl
theorem zw_g31 (G : zg_T) (S : zs_T) : (zw_L G S)[31]? = some ((zg_q G 31), .inr (2, [.ref (zg_q G 32), .ref (zg_q G 33), .ref (zg_q G 34)])) := rfl
theorem zw_g32 (G : zg_T) (S : zs_T) : (zw_L G S)[32]? = some ((zg_q G 32), .inl (zg_I G, 8, .inl (S.1 32))) := rfl
theorem zw_s32 (G : zg_T) (S : zs_T) (f : Nat → Int32) : (zw_L G S).set 32 ((zg_q G 32), .inl (zg_I G, 8, .inl f)) = zw_L G (zs_ri S 32 f) := rfl
theorem zw_g33 (G : zg_T) (S : zs_T) : (zw_L G S)[33]? = some ((zg_q G 33), .inl (zg_I G, 8, .inl (S.1 33))) := rfl
theorem zw_s33 (G : zg_T) (S : zs_T) (f : Nat → Int32) : (zw_L G S).set 33 ((zg_q G 33), .inl (zg_I G, 8, .inl f)) = zw_L G (zs_ri S 33 f) := rfl
theorem zw_g34 (G : zg_T) (S : zs_T) : (zw_L G S)[34]? = some ((zg_q G 34), .inl (zg_I G, 8, .inl (S.1 34))) := rfl
theorem zw_s34 (G : zg_T) (S : zs_T) (f : Nat → Int32) : (zw_L G S).set 34 ((zg_q G 34), .inl (zg_I G, 8, .inl f)) = zw_L G (zs_ri S 34 f) := rfl
theorem zw_g35 (G : zg_T) (S : zs_T) : (zw_L G S)[35]? = some ((zg_q G 35), .inr (4, [.ref (zg_q G 36), .ref (zg_q G 37)])) := rfl
theorem zw_g36 (G : zg_T) (S : zs_T) : (zw_L G S)[36]? = some ((zg_q G 36), .inl (zg_I G, 280, .inl (S.1 36))) := rfl
theorem zw_s36 (G : zg_T) (S : zs_T) (f : Nat → Int32) : (zw_L G S).set 36 ((zg_q G 36), .inl (zg_I G, 280, .inl f)) = zw_L G (zs_ri S 36 f) := rfl
theorem zw_g37 (G : zg_T) (S : zs_T) : (zw_L G S)[37]? = some ((zg_q G 37), .inl (zg_I G, 40, .inl (S.1 37))) := rfl
theorem zw_s37 (G : zg_T) (S : zs_T) (f : Nat → Int32) : (zw_L G S).set 37 ((zg_q G 37), .inl (zg_I G, 40, .inl f)) = zw_L G (zs_ri S 37 f) := rfl
theorem zw_g38 (G : zg_T) (S : zs_T) : (zw_L G S)[38]? = some ((zg_q G 38), .inr (6, [.ref (zg_q G 39), .int (S.1 38 1), .int (S.1 38 2)])) := rfl
theorem zw_f38_1 (G : zg_T) (S : zs_T) (v : Int32) : (zw_L G S).set 38 ((zg_q G 38), .inr (6, ([.ref (zg_q G 39), .int (S.1 38 1), .int (S.1 38 2)] : List Value).set 1 (.int v))) = zw_L G (zs_wi S 38 1 v) := rfl
theorem zw_f38_2 (G : zg_T) (S : zs_T) (v : Int32) : (zw_L G S).set 38 ((zg_q G 38), .inr (6, ([.ref (zg_q G 39), .int (S.1 38 1), .int (S.1 38 2)] : List Value).set 2 (.int v))) = zw_L G (zs_wi S 38 2 v) := rfl
theorem zw_g39 (G : zg_T) (S : zs_T) : (zw_L G S)[39]? = some ((zg_q G 39), .inl (zg_I G, 40, .inl (S.1 39))) := rfl
theorem zw_s39 (G : zg_T) (S : zs_T) (f : Nat → Int32) : (zw_L G S).set 39 ((zg_q G 39), .inl (zg_I G, 40, .inl f)) = zw_L G (zs_ri S 39 f) := rfl
theorem zw_g40 (G : zg_T) (S : zs_T) : (zw_L G S)[40]? = some ((zg_q G 40), .inr (10, [.int (S.1 40 0), .int (S.1 40 1), .ref (zg_q G 41), .int (S.1 40 3), .ref (zg_q G 42), .ref (zg_q G 43), .ref (zg_q G 44), .int (S.1 40 7), .int (S.1 40 8), .long (S.2 40 9), .long (S.2 40 10), .long (S.2 40 11), .ref (zg_q G 45), .ref (zg_q G 46), .ref (zg_q G 47), .ref (zg_q G 48), .int (S.1 40 16), .long (S.2 40 17), .ref (zg_q G 49), .ref (zg_q G 50), .ref (zg_q G 51), .ref (zg_q G 52), .ref (zg_q G 53), .ref (zg_q G 54), .ref (zg_q G 55), .ref (zg_q G 56), .ref (zg_q G 57), .ref (zg_q G 58), .int (S.1 40 28), .int (S.1 40 29)])) := rfl
theorem zw_f40_0 (G : zg_T) (S : zs_T) (v : Int32) : (zw_L G S).set 40 ((zg_q G 40), .inr (10, ([.int (S.1 40 0), .int (S.1 40 1), .ref (zg_q G 41), .int (S.1 40 3), .ref (zg_q G 42), .ref (zg_q G 43), .ref (zg_q G 44), .int (S.1 40 7), .int (S.1 40 8), .long (S.2 40 9), .long (S.2 40 10), .long (S.2 40 11), .ref (zg_q G 45), .ref (zg_q G 46), .ref (zg_q G 47), .ref (zg_q G 48), .int (S.1 40 16), .long (S.2 40 17), .ref (zg_q G 49), .ref (zg_q G 50), .ref (zg_q G 51), .ref (zg_q G 52), .ref (zg_q G 53), .ref (zg_q G 54), .ref (zg_q G 55), .ref (zg_q G 56), .ref (zg_q G 57), .ref (zg_q G 58), .int (S.1 40 28), .int (S.1 40 29)] : List Value).set 0 (.int v))) = zw_L G (zs_wi S 40 0 v) := rfl
theorem zw_f40_1 (G : zg_T) (S : zs_T) (v : Int32) : (zw_L G S).set 40 ((zg_q G 40), .inr (10, ([.int (S.1 40 0), .int (S.1 40 1), .ref (zg_q G 41), .int (S.1 40 3), .ref (zg_q G 42), .ref (zg_q G 43), .ref (zg_q G 44), .int (S.1 40 7), .int (S.1 40 8), .long (S.2 40 9), .long (S.2 40 10), .long (S.2 40 11), .ref (zg_q G 45), .ref (zg_q G 46), .ref (zg_q G 47), .ref (zg_q G 48), .int (S.1 40 16), .long (S.2 40 17), .ref (zg_q G 49), .ref (zg_q G 50), .ref (zg_q G 51), .ref (zg_q G 52), .ref (zg_q G 53), .ref (zg_q G 54), .ref (zg_q G 55), .ref (zg_q G 56), .ref (zg_q G 57), .ref (zg_q G 58), .int (S.1 40 28), .int (S.1 40 29)] : List Value).set 1 (.int v))) = zw_L G (zs_wi S 40 1 v) := rfl
theorem zw_f40_3 (G : zg_T) (S : zs_T) (v : Int32) : (zw_L G S).set 40 ((zg_q G 40), .inr (10, ([.int (S.1 40 0), .int (S.1 40 1), .ref (zg_q G 41), .int (S.1 40 3), .ref (zg_q G 42), .ref (zg_q G 43), .ref (zg_q G 44), .int (S.1 40 7), .int (S.1 40 8), .long (S.2 40 9), .long (S.2 40 10), .long (S.2 40 11), .ref (zg_q G 45), .ref (zg_q G 46), .ref (zg_q G 47), .ref (zg_q G 48), .int (S.1 40 16), .long (S.2 40 17), .ref (zg_q G 49), .ref (zg_q G 50), .ref (zg_q G 51), .ref (zg_q G 52), .ref (zg_q G 53), .ref (zg_q G 54), .ref (zg_q G 55), .ref (zg_q G 56), .ref (zg_q G 57), .ref (zg_q G 58), .int (S.1 40 28), .int (S.1 40 29)] : List Value).set 3 (.int v))) = zw_L G (zs_wi S 40 3 v) := rfl
theorem zw_f40_7 (G : zg_T) (S : zs_T) (v : Int32) : (zw_L G S).set 40 ((zg_q G 40), .inr (10, ([.int (S.1 40 0), .int (S.1 40 1), .ref (zg_q G 41), .int (S.1 40 3), .ref (zg_q G 42), .ref (zg_q G 43), .ref (zg_q G 44), .int (S.1 40 7), .int (S.1 40 8), .long (S.2 40 9), .long (S.2 40 10), .long (S.2 40 11), .ref (zg_q G 45), .ref (zg_q G 46), .ref (zg_q G 47), .ref (zg_q G 48), .int (S.1 40 16), .long (S.2 40 17), .ref (zg_q G 49), .ref (zg_q G 50), .ref (zg_q G 51), .ref (zg_q G 52), .ref (zg_q G 53), .ref (zg_q G 54), .ref (zg_q G 55), .ref (zg_q G 56), .ref (zg_q G 57), .ref (zg_q G 58), .int (S.1 40 28), .int (S.1 40 29)] : List Value).set 7 (.int v))) = zw_L G (zs_wi S 40 7 v) := rfl
theorem zw_f40_8 (G : zg_T) (S : zs_T) (v : Int32) : (zw_L G S).set 40 ((zg_q G 40), .inr (10, ([.int (S.1 40 0), .int (S.1 40 1), .ref (zg_q G 41), .int (S.1 40 3), .ref (zg_q G 42), .ref (zg_q G 43), .ref (zg_q G 44), .int (S.1 40 7), .int (S.1 40 8), .long (S.2 40 9), .long (S.2 40 10), .long (S.2 40 11), .ref (zg_q G 45), .ref (zg_q G 46), .ref (zg_q G 47), .ref (zg_q G 48), .int (S.1 40 16), .long (S.2 40 17), .ref (zg_q G 49), .ref (zg_q G 50), .ref (zg_q G 51), .ref (zg_q G 52), .ref (zg_q G 53), .ref (zg_q G 54), .ref (zg_q G 55), .ref (zg_q G 56), .ref (zg_q G 57), .ref (zg_q G 58), .int (S.1 40 28), .int (S.1 40 29)] : List Value).set 8 (.int v))) = zw_L G (zs_wi S 40 8 v) := rfl
theorem zw_f40_9 (G : zg_T) (S : zs_T) (v : Int64) : (zw_L G S).set 40 ((zg_q G 40), .inr (10, ([.int (S.1 40 0), .int (S.1 40 1), .ref (zg_q G 41), .int (S.1 40 3), .ref (zg_q G 42), .ref (zg_q G 43), .ref (zg_q G 44), .int (S.1 40 7), .int (S.1 40 8), .long (S.2 40 9), .long (S.2 40 10), .long (S.2 40 11), .ref (zg_q G 45), .ref (zg_q G 46), .ref (zg_q G 47), .ref (zg_q G 48), .int (S.1 40 16), .long (S.2 40 17), .ref (zg_q G 49), .ref (zg_q G 50), .ref (zg_q G 51), .ref (zg_q G 52), .ref (zg_q G 53), .ref (zg_q G 54), .ref (zg_q G 55), .ref (zg_q G 56), .ref (zg_q G 57), .ref (zg_q G 58), .int (S.1 40 28), .int (S.1 40 29)] : List Value).set 9 (.long v))) = zw_L G (zs_wl S 40 9 v) := rfl
theorem zw_f40_10 (G : zg_T) (S : zs_T) (v : Int64) : (zw_L G S).set 40 ((zg_q G 40), .inr (10, ([.int (S.1 40 0), .int (S.1 40 1), .ref (zg_q G 41), .int (S.1 40 3), .ref (zg_q G 42), .ref (zg_q G 43), .ref (zg_q G 44), .int (S.1 40 7), .int (S.1 40 8), .long (S.2 40 9), .long (S.2 40 10), .long (S.2 40 11), .ref (zg_q G 45), .ref (zg_q G 46), .ref (zg_q G 47), .ref (zg_q G 48), .int (S.1 40 16), .long (S.2 40 17), .ref (zg_q G 49), .ref (zg_q G 50), .ref (zg_q G 51), .ref (zg_q G 52), .ref (zg_q G 53), .ref (zg_q G 54), .ref (zg_q G 55), .ref (zg_q G 56), .ref (zg_q G 57), .ref (zg_q G 58), .int (S.1 40 28), .int (S.1 40 29)] : List Value).set 10 (.long v))) = zw_L G (zs_wl S 40 10 v) := rfl
theorem zw_f40_11 (G : zg_T) (S : zs_T) (v : Int64) : (zw_L G S).set 40 ((zg_q G 40), .inr (10, ([.int (S.1 40 0), .int (S.1 40 1), .ref (zg_q G 41), .int (S.1 40 3), .ref (zg_q G 42), .ref (zg_q G 43), .ref (zg_q G 44), .int (S.1 40 7), .int (S.1 40 8), .long (S.2 40 9), .long (S.2 40 10), .long (S.2 40 11), .ref (zg_q G 45), .ref (zg_q G 46), .ref (zg_q G 47), .ref (zg_q G 48), .int (S.1 40 16), .long (S.2 40 17), .ref (zg_q G 49), .ref (zg_q G 50), .ref (zg_q G 51), .ref (zg_q G 52), .ref (zg_q G 53), .ref (zg_q G 54), .ref (zg_q G 55), .ref (zg_q G 56), .ref (zg_q G 57), .ref (zg_q G 58), .int (S.1 40 28), .int (S.1 40 29)] : List Value).set 11 (.long v))) = zw_L G (zs_wl S 40 11 v) := rfl
theorem zw_f40_16 (G : zg_T) (S : zs_T) (v : Int32) : (zw_L G S).set 40 ((zg_q G 40), .inr (10, ([.int (S.1 40 0), .int (S.1 40 1), .ref (zg_q G 41), .int (S.1 40 3), .ref (zg_q G 42), .ref (zg_q G 43), .ref (zg_q G 44), .int (S.1 40 7), .int (S.1 40 8), .long (S.2 40 9), .long (S.2 40 10), .long (S.2 40 11), .ref (zg_q G 45), .ref (zg_q G 46), .ref (zg_q G 47), .ref (zg_q G 48), .int (S.1 40 16), .long (S.2 40 17), .ref (zg_q G 49), .ref (zg_q G 50), .ref (zg_q G 51), .ref (zg_q G 52), .ref (zg_q G 53), .ref (zg_q G 54), .ref (zg_q G 55), .ref (zg_q G 56), .ref (zg_q G 57), .ref (zg_q G 58), .int (S.1 40 28), .int (S.1 40 29)] : List Value).set 16 (.int v))) = zw_L G (zs_wi S 40 16 v) := rfl
theorem zw_f40_17 (G : zg_T) (S : zs_T) (v : Int64) : (zw_L G S).set 40 ((zg_q G 40), .inr (10, ([.int (S.1 40 0), .int (S.1 40 1), .ref (zg_q G 41), .int (S.1 40 3), .ref (zg_q G 42), .ref (zg_q G 43), .ref (zg_q G 44), .int (S.1 40 7), .int (S.1 40 8), .long (S.2 40 9), .long (S.2 40 10), .long (S.2 40 11), .ref (zg_q G 45), .ref (zg_q G 46), .ref (zg_q G 47), .ref (zg_q G 48), .int (S.1 40 16), .long (S.2 40 17), .ref (zg_q G 49), .ref (zg_q G 50), .ref (zg_q G 51), .ref (zg_q G 52), .ref (zg_q G 53), .ref (zg_q G 54), .ref (zg_q G 55), .ref (zg_q G 56), .ref (zg_q G 57), .ref (zg_q G 58), .int (S.1 40 28), .int (S.1 40 29)] : List Value).set 17 (.long v))) = zw_L G (zs_wl S 40 17 v) := rfl
theorem zw_f40_28 (G : zg_T) (S : zs_T) (v : Int32) : (zw_L G S).set 40 ((zg_q G 40), .inr (10, ([.int (S.1 40 0), .int (S.1 40 1), .ref (zg_q G 41), .int (S.1 40 3), .ref (zg_q G 42), .ref (zg_q G 43), .ref (zg_q G 44), .int (S.1 40 7), .int (S.1 40 8), .long (S.2 40 9), .long (S.2 40 10), .long (S.2 40 11), .ref (zg_q G 45), .ref (zg_q G 46), .ref (zg_q G 47), .ref (zg_q G 48), .int (S.1 40 16), .long (S.2 40 17), .ref (zg_q G 49), .ref (zg_q G 50), .ref (zg_q G 51), .ref (zg_q G 52), .ref (zg_q G 53), .ref (zg_q G 54), .ref (zg_q G 55), .ref (zg_q G 56), .ref (zg_q G 57), .ref (zg_q G 58), .int (S.1 40 28), .int (S.1 40 29)] : List Value).set 28 (.int v))) = zw_L G (zs_wi S 40 28 v) := rfl
theorem zw_f40_29 (G : zg_T) (S : zs_T) (v : Int32) : (zw_L G S).set 40 ((zg_q G 40), .inr (10, ([.int (S.1 40 0), .int (S.1 40 1), .ref (zg_q G 41), .int (S.1 40 3), .ref (zg_q G 42), .ref (zg_q G 43), .ref (zg_q G 44), .int (S.1 40 7), .int (S.1 40 8), .long (S.2 40 9), .long (S.2 40 10), .long (S.2 40 11), .ref (zg_q G 45), .ref (zg_q G 46), .ref (zg_q G 47), .ref (zg_q G 48), .int (S.1 40 16), .long (S.2 40 17), .ref (zg_q G 49), .ref (zg_q G 50), .ref (zg_q G 51), .ref (zg_q G 52), .ref (zg_q G 53), .ref (zg_q G 54), .ref (zg_q G 55), .ref (zg_q G 56), .ref (zg_q G 57), .ref (zg_q G 58), .int (S.1 40 28), .int (S.1 40 29)] : List Value).set 29 (.int v))) = zw_L G (zs_wi S 40 29 v) := rfl
theorem zw_g41 (G : zg_T) (S : zs_T) : (zw_L G S)[41]? = some ((zg_q G 41), .inl (zg_J G, 160, .inr (.inl (S.2 41)))) := rfl
theorem zw_s41 (G : zg_T) (S : zs_T) (f : Nat → Int64) : (zw_L G S).set 41 ((zg_q G 41), .inl (zg_J G, 160, .inr (.inl f))) = zw_L G (zs_rl S 41 f) := rfl
theorem zw_g42 (G : zg_T) (S : zs_T) : (zw_L G S)[42]? = some ((zg_q G 42), .inl (zg_I G, 33, .inl (S.1 42))) := rfl
theorem zw_s42 (G : zg_T) (S : zs_T) (f : Nat → Int32) : (zw_L G S).set 42 ((zg_q G 42), .inl (zg_I G, 33, .inl f)) = zw_L G (zs_ri S 42 f) := rfl
theorem zw_g43 (G : zg_T) (S : zs_T) : (zw_L G S)[43]? = some ((zg_q G 43), .inl (zg_I G, 76, .inl (S.1 43))) := rfl
theorem zw_s43 (G : zg_T) (S : zs_T) (f : Nat → Int32) : (zw_L G S).set 43 ((zg_q G 43), .inl (zg_I G, 76, .inl f)) = zw_L G (zs_ri S 43 f) := rfl
theorem zw_g44 (G : zg_T) (S : zs_T) : (zw_L G S)[44]? = some ((zg_q G 44), .inl (zg_I G, 160, .inl (S.1 44))) := rfl
theorem zw_s44 (G : zg_T) (S : zs_T) (f : Nat → Int32) : (zw_L G S).set 44 ((zg_q G 44), .inl (zg_I G, 160, .inl f)) = zw_L G (zs_ri S 44 f) := rfl
theorem zw_g45 (G : zg_T) (S : zs_T) : (zw_L G S)[45]? = some ((zg_q G 45), .inl (zg_J G, 16, .inr (.inl (S.2 45)))) := rfl
theorem zw_s45 (G : zg_T) (S : zs_T) (f : Nat → Int64) : (zw_L G S).set 45 ((zg_q G 45), .inl (zg_J G, 16, .inr (.inl f))) = zw_L G (zs_rl S 45 f) := rfl
theorem zw_g46 (G : zg_T) (S : zs_T) : (zw_L G S)[46]? = some ((zg_q G 46), .inl (zg_J G, 9, .inr (.inl (S.2 46)))) := rfl
theorem zw_s46 (G : zg_T) (S : zs_T) (f : Nat → Int64) : (zw_L G S).set 46 ((zg_q G 46), .inl (zg_J G, 9, .inr (.inl f))) = zw_L G (zs_rl S 46 f) := rfl
theorem zw_g47 (G : zg_T) (S : zs_T) : (zw_L G S)[47]? = some ((zg_q G 47), .inl (zg_J G, 9, .inr (.inl (S.2 47)))) := rfl
theorem zw_s47 (G : zg_T) (S : zs_T) (f : Nat → Int64) : (zw_L G S).set 47 ((zg_q G 47), .inl (zg_J G, 9, .inr (.inl f))) = zw_L G (zs_rl S 47 f) := rfl
theorem zw_g48 (G : zg_T) (S : zs_T) : (zw_L G S)[48]? = some ((zg_q G 48), .inl (zg_J G, 560, .inr (.inl (S.2 48)))) := rfl
theorem zw_s48 (G : zg_T) (S : zs_T) (f : Nat → Int64) : (zw_L G S).set 48 ((zg_q G 48), .inl (zg_J G, 560, .inr (.inl f))) = zw_L G (zs_rl S 48 f) := rfl
theorem zw_g49 (G : zg_T) (S : zs_T) : (zw_L G S)[49]? = some ((zg_q G 49), .inl (zg_J G, 160, .inr (.inl (S.2 49)))) := rfl
theorem zw_s49 (G : zg_T) (S : zs_T) (f : Nat → Int64) : (zw_L G S).set 49 ((zg_q G 49), .inl (zg_J G, 160, .inr (.inl f))) = zw_L G (zs_rl S 49 f) := rfl
theorem zw_g50 (G : zg_T) (S : zs_T) : (zw_L G S)[50]? = some ((zg_q G 50), .inl (zg_J G, 160, .inr (.inl (S.2 50)))) := rfl
theorem zw_s50 (G : zg_T) (S : zs_T) (f : Nat → Int64) : (zw_L G S).set 50 ((zg_q G 50), .inl (zg_J G, 160, .inr (.inl f))) = zw_L G (zs_rl S 50 f) := rfl
theorem zw_g51 (G : zg_T) (S : zs_T) : (zw_L G S)[51]? = some ((zg_q G 51), .inl (zg_J G, 40, .inr (.inl (S.2 51)))) := rfl
theorem zw_s51 (G : zg_T) (S : zs_T) (f : Nat → Int64) : (zw_L G S).set 51 ((zg_q G 51), .inl (zg_J G, 40, .inr (.inl f))) = zw_L G (zs_rl S 51 f) := rfl
theorem zw_g52 (G : zg_T) (S : zs_T) : (zw_L G S)[52]? = some ((zg_q G 52), .inl (zg_J G, 40, .inr (.inl (S.2 52)))) := rfl
theorem zw_s52 (G : zg_T) (S : zs_T) (f : Nat → Int64) : (zw_L G S).set 52 ((zg_q G 52), .inl (zg_J G, 40, .inr (.inl f))) = zw_L G (zs_rl S 52 f) := rfl
theorem zw_g53 (G : zg_T) (S : zs_T) : (zw_L G S)[53]? = some ((zg_q G 53), .inl (zg_J G, 9, .inr (.inl (S.2 53)))) := rfl
theorem zw_s53 (G : zg_T) (S : zs_T) (f : Nat → Int64) : (zw_L G S).set 53 ((zg_q G 53), .inl (zg_J G, 9, .inr (.inl f))) = zw_L G (zs_rl S 53 f) := rfl
theorem zw_g54 (G : zg_T) (S : zs_T) : (zw_L G S)[54]? = some ((zg_q G 54), .inl (zg_J G, 10, .inr (.inl (S.2 54)))) := rfl
theorem zw_s54 (G : zg_T) (S : zs_T) (f : Nat → Int64) : (zw_L G S).set 54 ((zg_q G 54), .inl (zg_J G, 10, .inr (.inl f))) = zw_L G (zs_rl S 54 f) := rfl
theorem zw_g55 (G : zg_T) (S : zs_T) : (zw_L G S)[55]? = some ((zg_q G 55), .inl (zg_J G, 10, .inr (.inl (S.2 55)))) := rfl
theorem zw_s55 (G : zg_T) (S : zs_T) (f : Nat → Int64) : (zw_L G S).set 55 ((zg_q G 55), .inl (zg_J G, 10, .inr (.inl f))) = zw_L G (zs_rl S 55 f) := rfl
theorem zw_g56 (G : zg_T) (S : zs_T) : (zw_L G S)[56]? = some ((zg_q G 56), .inl (zg_J G, 9, .inr (.inl (S.2 56)))) := rfl
theorem zw_s56 (G : zg_T) (S : zs_T) (f : Nat → Int64) : (zw_L G S).set 56 ((zg_q G 56), .inl (zg_J G, 9, .inr (.inl f))) = zw_L G (zs_rl S 56 f) := rfl
theorem zw_g57 (G : zg_T) (S : zs_T) : (zw_L G S)[57]? = some ((zg_q G 57), .inl (zg_J G, 8, .inr (.inl (S.2 57)))) := rfl
theorem zw_s57 (G : zg_T) (S : zs_T) (f : Nat → Int64) : (zw_L G S).set 57 ((zg_q G 57), .inl (zg_J G, 8, .inr (.inl f))) = zw_L G (zs_rl S 57 f) := rfl
theorem zw_g58 (G : zg_T) (S : zs_T) : (zw_L G S)[58]? = some ((zg_q G 58), .inl (zg_J G, 40, .inr (.inl (S.2 58)))) := rfl
theorem zw_s58 (G : zg_T) (S : zs_T) (f : Nat → Int64) : (zw_L G S).set 58 ((zg_q G 58), .inl (zg_J G, 40, .inr (.inl f))) = zw_L G (zs_rl S 58 f) := rfl
theorem zw_g59 (G : zg_T) (S : zs_T) : (zw_L G S)[59]? = some ((zg_q G 59), .inl (zg_J G, 1, .inr (.inl (S.2 59)))) := rfl
theorem zw_s59 (G : zg_T) (S : zs_T) (f : Nat → Int64) : (zw_L G S).set 59 ((zg_q G 59), .inl (zg_J G, 1, .inr (.inl f))) = zw_L G (zs_rl S 59 f) := rfl
def zt_C : Nat → String := fun j => match j with
  | 0 => "VoiceFrames"
  | 1 => "VoiceFrames"
  | 2 => "VoiceFrames"
  | 3 => "VoiceFrames"
  | 4 => "VoiceFrames$Prediction"
  | 5 => "VoiceFrames$Prediction"
  | 6 => "VoiceFrames$Filter"
  | 7 => "VoiceFrames$Filter"
  | 8 => "VoiceFrames$Past"
  | 9 => "VoiceFrames$Search"
  | 10 => "VoiceFrames$Thinning"
  | 11 => "VoiceFrames$Pulses"
  | _ => "VoiceFrames$Pulses"
def zt_n : Nat → String := fun j => match j with
  | 0 => "FILTER_BITS"
  | 1 => "PART_BITS"
  | 2 => "LEAST"
  | 3 => "B"
  | 4 => "A"
  | 5 => "MOST"
  | 6 => "C"
  | 7 => "ENDS"
  | 8 => "G"
  | 9 => "D"
  | 10 => "H"
  | 11 => "R"
  | _ => "F"
def zt_N : Nat → Nat := fun j => match j with
  | 0 => 8
  | 1 => 4
  | 2 => 8
  | 3 => 8
  | 4 => 8
  | 5 => 8
  | 6 => 8
  | 7 => 4
  | 8 => 4
  | 9 => 3
  | 10 => 11
  | 11 => 8
  | _ => 8
def zt_v0 : Nat → Int32 := fun i => ([6, 6, 5, 5, 4, 4, 3, 3] : List Int32).getD i 0
def zt_v1 : Nat → Int32 := fun i => ([7, 2, 2, 6] : List Int32).getD i 0
def zt_v2 : Nat → Int32 := fun i => ([(-32), (-32), (-16), (-16), (-8), (-8), (-4), (-4)] : List Int32).getD i 0
def zt_v3 : Nat → Int32 := fun i => ([0, 0, 2048, (-2560), 94, (-1792), (-341), (-1144)] : List Int32).getD i 0
def zt_v4 : Nat → Int32 := fun i => ([20480, 20480, 20480, 20480, 13964, 15360, 8534, 9036] : List Int32).getD i 0
def zt_v5 : Nat → Int32 := fun i => ([31, 31, 15, 15, 7, 7, 3, 3] : List Int32).getD i 0
def zt_v6 : Nat → Int32 := fun i => ([13107, 13107, 13107, 13107, 19223, 17476, 31454, 29708] : List Int32).getD i 0
def zt_v7 : Nat → Int32 := fun i => ([13, 27, 40, 160] : List Int32).getD i 0
def zt_v8 : Nat → Int32 := fun i => ([3277, 11469, 21299, 32767] : List Int32).getD i 0
def zt_v9 : Nat → Int32 := fun i => ([6554, 16384, 26214] : List Int32).getD i 0
def zt_v10 : Nat → Int32 := fun i => ([(-134), (-374), 0, 2054, 5741, 8192, 5741, 2054, 0, (-374), (-134)] : List Int32).getD i 0
def zt_v11 : Nat → Int32 := fun i => ([29128, 26215, 23832, 21846, 20165, 18725, 17476, 16384] : List Int32).getD i 0
def zt_v12 : Nat → Int32 := fun i => ([18431, 20479, 22527, 24575, 26623, 28671, 30719, 32767] : List Int32).getD i 0
def zt_v : Nat → Nat → Int32 := fun j => match j with
  | 0 => zt_v0
  | 1 => zt_v1
  | 2 => zt_v2
  | 3 => zt_v3
  | 4 => zt_v4
  | 5 => zt_v5
  | 6 => zt_v6
  | 7 => zt_v7
  | 8 => zt_v8
  | 9 => zt_v9
  | 10 => zt_v10
  | 11 => zt_v11
  | _ => zt_v12
def zn_F : List (String × Nat × String × String × String) := [
  ("VoiceFrames", 108, "VoiceFrames$Filter", "g", "[I"),
  ("VoiceFrames$Encoder", 114, "VoiceFrames$Filter", "\x72", "[I"),
  ("VoiceFrames$Decoder", 100, "VoiceFrames$Filter", "\x72", "[I"),
  ("VoiceFrames$Search", 29, "VoiceFrames$Past", "cells", "[I"),
  ("VoiceFrames$Decoder", 90, "VoiceFrames$Past", "cells", "[I"),
  ("VoiceFrames", 118, "VoiceFrames$Past", "cells", "[I"),
  ("VoiceFrames$Encoder", 140, "VoiceFrames$Past", "w", "[I"),
  ("VoiceFrames$Encoder", 130, "VoiceFrames$Search", "back", "I"),
  ("VoiceFrames$Encoder", 133, "VoiceFrames$Search", "gain", "I"),
  ("VoiceFrames$Encoder", 156, "VoiceFrames$Thinning", "x", "[I"),
  ("VoiceFrames$Encoder", 147, "VoiceFrames$Thinning", "grid", "I"),
  ("VoiceFrames$Encoder", 150, "VoiceFrames$Thinning", "height", "I"),
  ("VoiceFrames$Decoder", 77, "VoiceFrames$Pulses", "row", "[I"),
  ("VoiceFrames$Encoder", 163, "VoiceFrames$Pulses", "row", "[I"),
  ("VoiceFrames", 130, "VoiceFrames$Encoder", "inlet", "LVoiceFrames$Inlet;"),
  ("VoiceFrames", 104, "VoiceFrames$Encoder", "filter", "LVoiceFrames$Filter;"),
  ("VoiceFrames", 114, "VoiceFrames$Encoder", "past", "LVoiceFrames$Past;"),
  ("VoiceFrames", 124, "VoiceFrames$Encoder", "u", "[I"),
  ("VoiceFrames", 65, "VoiceFrames$Encoder", "frames", "I"),
  ("VoiceFrames", 113, "VoiceFrames$Decoder", "filter", "LVoiceFrames$Filter;"),
  ("VoiceFrames", 123, "VoiceFrames$Decoder", "past", "LVoiceFrames$Past;"),
  ("VoiceFrames", 127, "VoiceFrames$Decoder", "v", "[I"),
  ("VoiceFrames", 139, "VoiceFrames$Decoder", "back", "I"),
  ("VoiceFrames", 142, "VoiceFrames$Decoder", "echo", "I"),
  ("VoiceFrames", 83, "VoiceFrames$Decoder", "frames", "I"),
  ("VoiceFrames$Filter", 21, "VoiceFrames", "LEAST", "[I"),
  ("VoiceFrames$Filter", 33, "VoiceFrames", "B", "[I"),
  ("VoiceFrames$Decoder", 83, "VoiceFrames$Filter", "ENDS", "[I"),
  ("VoiceFrames$Prediction", 86, "VoiceFrames", "B", "[I"),
  ("VoiceFrames$Prediction", 89, "VoiceFrames", "LEAST", "[I"),
  ("VoiceFrames$Encoder", 103, "VoiceFrames$Filter", "ENDS", "[I")]
def zk_S : List (Nat × String) := [(45, "a sample is -32768 .. 32767"), (52, "there are 160 samples"), (55, "n is 0 .. 160"), (57, "there would be more than 160 samples"), (59, "there are not 160 samples"), (68, "i is 0 .. 75"), (70, "n is 0 .. 8"), (72, "there would be more than 33 bytes"), (84, "i is 0 .. 159"), (86, "what is 0 .. 2"), (102, "there is no such cell of the state"), (145, "what is 0 .. 3")]
def zx_ia : String := "java/lang/IllegalArgumentException"
def zx_is : String := "java/lang/IllegalStateException"
def zx_ch : List String := ["java/lang/RuntimeException", "java/lang/Exception"]
/-- words that a throw needs and that hold in any tables alike, not among the good ones -/
def zx_F : List Cond := (vx_atS RX10 47 zx_ia zx_ch ++ vx_atS RX10 54 zx_is zx_ch).filter (fun w => !goodWord w)
theorem zx_F_ok : ∀ w ∈ zx_F, w.faceAtom = true ∧ w.onTables = true := by decide +kernel
/-- what never changes while the law runs: tables of names, static tables, what a throw needs -/
def zg_E (G : zg_T) (U : State) : Prop :=
  va_K (zg_D G) vwCl [(zg_I G, .int), (zg_J G, .long)] U ∧ zg_b G ≤ U.heap.size ∧
  (∀ x ∈ zn_F, va_Nw (.fieldLinkNest x.1 x.2.1 x.2.2.1 x.2.2.2.1 x.2.2.2.2 "VoiceFrames") U) ∧ va_Nw (.methodLinkNest RX1 11 yX3_init "VoiceFrames") U ∧
  (∀ j, j < 13 → va_Z (zt_C j) (zt_n j) "[I" (.ref (zg_t G j)) (zg_A G) U U.heap ∧ va_T .int (zg_t G j) (zt_N j) (fun i => .int (zt_v j i)) (zg_A G) U U.heap) ∧
  vx_Zq Bundle.tN "UNASSIGNED_STACK" Bundle.steD (zg_A G) U U.heap ∧ vx_Zq Bundle.tN "SUPPRESSED_SENTINEL" Bundle.listD (zg_A G) U U.heap ∧
  (∀ x ∈ zk_S, ∃ a, vk_R "VoiceFrames" x.1 x.2 a U) ∧ (∀ w ∈ zx_F, va_Nw w U) ∧ va_Nc zx_is zx_ia U
theorem zx_face {w : Cond} (hw : w ∈ zx_F) {s U : State} (al : s.vm.Alike U.vm) (h : va_Nw w s) : va_Nw w U :=
  va_tabs (zx_F_ok w hw).2 (u := s.setVm U.vm) rfl (Cond.faceAtom_setVm al w (zx_F_ok w hw).1 h)
def zg_P (G : zg_T) (S : zs_T) (U : State) : Prop := zg_E G U ∧ va_P (zg_D G) vwCl (zw_L G S) U.heap ∧ va_D (zg_A G) (zw_L G S)
def zg_W (G : zg_T) (S : zs_T) (s : State) (H : Heap) (locs : List Loc) : Prop := va_P (zg_D G) vwCl (zw_L G S) H ∧ va_D (zg_A G) (zw_L G S) ∧ va_S (zg_A G) s.heap H locs
theorem zg_E.same {G : zg_T} {u U : State} (hv : u.vm = U.vm) (hh : u.heap = U.heap) (h : zg_E G u) : zg_E G U := by
  obtain ⟨h1, h2, h3, h4, h5, h6, h7, h8, h9, h10⟩ := h
  have al : u.vm.Alike U.vm := hv ▸ Vm.Alike.refl u.vm
  refine ⟨va_K.moved al h1, hh ▸ h2, fun x hx => (h3 x hx).same rfl hv, h4.same rfl hv, fun j hj => ⟨hh ▸ va_Z.moved al (h5 j hj).1, hh ▸ va_T.moved al (h5 j hj).2⟩, hh ▸ vx_Zq.moved al h6, hh ▸ vx_Zq.moved al h7, fun x hx => ?_, fun w hw => zx_face hw al (h9 w hw), h10.moved al⟩
  obtain ⟨a, ha⟩ := h8 x hx
  exact ⟨a, vk_R.same hv.symm ha⟩
theorem zg_E.step {G : zg_T} {s U : State} {H : Heap} {locs : List Loc} (h : zg_E G s) (hW : s.WarmedH U.vm) (hS : va_S (zg_A G) s.heap H locs) (hU : U.heap = H) : zg_E G U := by
  subst hU
  obtain ⟨h1, h2, h3, h4, h5, h6, h7, h8, h9, h10⟩ := h
  have al := hW.alike
  refine ⟨va_K.moved al h1, Nat.le_trans h2 hS.1, fun x hx => (h3 x hx).warmF hW, h4.warmM hW, fun j hj => ⟨va_Z.moved al ((h5 j hj).1.kept hS.2.1), va_T.moved al ((h5 j hj).2.kept hS.2.1)⟩, vx_Zq.moved al (h6.kept hS.2.1), vx_Zq.moved al (h7.kept hS.2.1), fun x hx => ?_, fun w hw => zx_face hw al (h9 w hw), h10.moved al⟩
  obtain ⟨a, ha⟩ := h8 x hx
  exact ⟨a, ha.warm hW⟩
theorem zg_P.same {G : zg_T} {S : zs_T} {u U : State} (hv : u.vm = U.vm) (hh : u.heap = U.heap) (h : zg_P G S u) : zg_P G S U := ⟨h.1.same hv hh, hh ▸ h.2.1, h.2.2⟩
theorem zg_P.to {G : zg_T} {S : zs_T} {s U : State} {H : Heap} {locs : List Loc} (h : zg_E G s) (w : zg_W G S s H locs) (hU : U.heap = H) (hW : s.WarmedH U.vm) : zg_P G S U := ⟨h.step hW w.2.2 hU, hU ▸ w.1, w.2.1⟩
theorem zg_blind {G : zg_T} {S : zs_T} {av : List Value} : FrameBlind (va_Pc av (zg_P G S)) := fun _ U _ _ h => ⟨h.1, zg_P.same (u := U) rfl rfl h.2⟩
/-! words: all that are good among the tables', for every method -/
def zt_G : List Cond := lw_tbl.filter goodWord
theorem zt_m {w : Cond} (i : Nat) (h : tables_1[i]? = some w) (hg : goodWord w = true) : w ∈ zt_G := List.mem_filter.mpr ⟨List.mem_append_right _ (List.mem_of_getElem? h), hg⟩
theorem zt_s {w : Cond} (i : Nat) (h : (k2_sels lw_privs)[i]? = some w) (hg : goodWord w = true) : w ∈ zt_G := List.mem_filter.mpr ⟨List.mem_append_left _ (List.mem_of_getElem? h), hg⟩
theorem zt_good {w : Cond} (h : w ∈ zt_G) : goodWord w = true := (List.mem_filter.mp h).2
theorem zt_in {y : MethodName} {b : ByteArray} {n : Nat} {r : Option FieldType} (h : Cond.code y b n r ∈ zt_G) : GoodIn zt_G (Cond.code y b n r :: zt_G) := fun w hw => by
  have hm : w ∈ zt_G := (List.mem_cons.mp hw).elim (fun e => e ▸ h) id
  exact ⟨hm, good_of_word (zt_good hm)⟩
/-! the pure functions' combinators -/
def zc_lt {α β : Type} (x : α) (f : α → β) : β := f x
def zc_gi {α : Type} (i : Int32) (n : Nat) (x : Option α) : Option α := if i < 0 ∨ n ≤ i.toNatClampNeg then none else x
theorem zc_gi_x {α : Type} {i : Int32} {n : Nat} {x : Option α} {r : α} (h : zc_gi i n x = some r) : vp_in i n ∧ x = some r := by
  unfold zc_gi at h
  by_cases c : i < 0 ∨ n ≤ i.toNatClampNeg
  · rw [if_pos c] at h; cases h
  · rw [if_neg c] at h; exact ⟨c, h⟩
def zc_nz {α : Type} (y : Int32) (x : Option α) : Option α := if y = 0 then none else x
theorem zc_nz_x {α : Type} {y : Int32} {x : Option α} {r : α} (h : zc_nz y x = some r) : ¬ y = 0 ∧ x = some r := by
  unfold zc_nz at h
  by_cases c : y = 0
  · rw [if_pos c] at h; cases h
  · rw [if_neg c] at h; exact ⟨c, h⟩
def zc_nl {α : Type} (y : Int64) (x : Option α) : Option α := if y = 0 then none else x
theorem zc_nl_x {α : Type} {y : Int64} {x : Option α} {r : α} (h : zc_nl y x = some r) : ¬ y = 0 ∧ x = some r := by
  unfold zc_nl at h
  by_cases c : y = 0
  · rw [if_pos c] at h; cases h
  · rw [if_neg c] at h; exact ⟨c, h⟩
def zc_b1 {A O : Type} (x : Option A) (f : A → Option O) : Option O := x.bind f
def zc_b2 {A B O : Type} (x : Option (A × B)) (f : A → B → Option O) : Option O := x.bind (fun a => f a.1 a.2)
def zc_b3 {A B C O : Type} (x : Option (A × B × C)) (f : A → B → C → Option O) : Option O := x.bind (fun a => f a.1 a.2.1 a.2.2)
def zc_b4 {A B C D O : Type} (x : Option (A × B × C × D)) (f : A → B → C → D → Option O) : Option O := x.bind (fun a => f a.1 a.2.1 a.2.2.1 a.2.2.2)
def zc_b5 {A B C D E O : Type} (x : Option (A × B × C × D × E)) (f : A → B → C → D → E → Option O) : Option O := x.bind (fun a => f a.1 a.2.1 a.2.2.1 a.2.2.2.1 a.2.2.2.2)
theorem zc_b1_x {A O : Type} {x : Option A} {f : A → Option O} {r : O} (h : zc_b1 x f = some r) : ∃ a, x = some a ∧ f a = some r := by
  cases x with
  | none => cases h
  | some a => exact ⟨a, rfl, h⟩
theorem zc_b2_x {A B O : Type} {x : Option (A × B)} {f : A → B → Option O} {r : O} (h : zc_b2 x f = some r) : ∃ a b, x = some (a, b) ∧ f a b = some r := by
  cases x with
  | none => cases h
  | some a => exact ⟨a.1, a.2, rfl, h⟩
theorem zc_b3_x {A B C O : Type} {x : Option (A × B × C)} {f : A → B → C → Option O} {r : O} (h : zc_b3 x f = some r) : ∃ a b c, x = some (a, b, c) ∧ f a b c = some r := by
  cases x with
  | none => cases h
  | some a => exact ⟨a.1, a.2.1, a.2.2, rfl, h⟩
theorem zc_b4_x {A B C D O : Type} {x : Option (A × B × C × D)} {f : A → B → C → D → Option O} {r : O} (h : zc_b4 x f = some r) : ∃ a b c d, x = some (a, b, c, d) ∧ f a b c d = some r := by
  cases x with
  | none => cases h
  | some a => exact ⟨a.1, a.2.1, a.2.2.1, a.2.2.2, rfl, h⟩
theorem zc_b5_x {A B C D E O : Type} {x : Option (A × B × C × D × E)} {f : A → B → C → D → E → Option O} {r : O} (h : zc_b5 x f = some r) : ∃ a b c d e, x = some (a, b, c, d, e) ∧ f a b c d e = some r := by
  cases x with
  | none => cases h
  | some a => exact ⟨a.1, a.2.1, a.2.2.1, a.2.2.2.1, a.2.2.2.2, rfl, h⟩
def zl_1 {A O : Type} (b : (A → Option O) → A → Option O) : Nat → A → Option O
  | 0 => fun _ => none
  | n + 1 => b (zl_1 b n)
def zl_2 {A B O : Type} (b : (A → B → Option O) → A → B → Option O) : Nat → A → B → Option O
  | 0 => fun _ _ => none
  | n + 1 => b (zl_2 b n)
def zl_3 {A B C O : Type} (b : (A → B → C → Option O) → A → B → C → Option O) : Nat → A → B → C → Option O
  | 0 => fun _ _ _ => none
  | n + 1 => b (zl_3 b n)
def zl_4 {A B C D O : Type} (b : (A → B → C → D → Option O) → A → B → C → D → Option O) : Nat → A → B → C → D → Option O
  | 0 => fun _ _ _ _ => none
  | n + 1 => b (zl_4 b n)
def zl_5 {A B C D E O : Type} (b : (A → B → C → D → E → Option O) → A → B → C → D → E → Option O) : Nat → A → B → C → D → E → Option O
  | 0 => fun _ _ _ _ _ => none
  | n + 1 => b (zl_5 b n)
/-! inside a method -/
def zx_C (p : Program) (s : State) (m : MethodId) (args : Array Value) (meth : Method) (c : Code) (G : zg_T) (own : String) (cc : ByteArray) (nL : Nat) : Prop :=
  p.tables.exec = Jvm.exec ∧ c.code = cc ∧ c.maxLocals = nL ∧ s.vm.findClass own = some m.cls ∧ (∀ w ∈ zt_G, w.before args s = true) ∧ meth.locks = false ∧ zg_E G s
def zg_Q (G : zg_T) (v : Option Value) (S : zs_T) : Array Value → State → Outcome → State → Prop := fun _ st oc t => oc = .returned v ∧ zg_P G S t ∧ va_F (zg_A G) st t
theorem zx_met {l : Launch} {y : MethodName} {cc : ByteArray} {nL : Nat} {ret : Option FieldType} {rm : Room} {vs : List Value} {G : zg_T} {S : zs_T} {Qc : Array Value → State → Outcome → State → Prop} {mc ms : Nat} {free : Addr → Prop}
    (hy : plainName y.cls = true) (hvs : (lg_sl vs).length ≤ nL) {lv : List (Nat × Value)} (hlv : lv_args 0 vs = lv)
    (body : ∀ p e s m below meth c, zx_C p s m vs.toArray meth c G y.cls cc nL → meth.sig.returnType = ret → zg_W G S s s.heap [] → ∀ ls, lv_has ls nL lv →
      W p l e rm s m vs.toArray below meth c s.heap [] 0 0 (MQ below Qc vs.toArray s mc ms free) (F0 m 0 ls [])) :
    Met l y (Cond.code y cc nL ret :: zt_G) rm (va_Pc vs (zg_P G S)) Qc mc ms free := by
  refine Met.ofW (cc := cc) (maxL := nL) (ret := ret) hy rfl ?_
  intro p e s m args below meth c s₁ B hml hv
  obtain ⟨rfl, hE, hP, hD⟩ := hv
  have hts := atoms_spec (ws := Cond.code y cc nL ret :: zt_G) B.pre
  have hl := lv_entry vs (n := nL) hvs
  rw [hlv] at hl
  rw [lg_entry_eq]
  exact body p e s m below meth c ⟨B.exec, B.bytes, hml, findClass_of_methodNamed B.named, fun w h => hts w (List.mem_cons_of_mem _ h), B.notSynchronized, hE⟩ B.returns ⟨hP, hD, va_S.rf⟩ _ hl
section ZR
variable {p : Program} {l : Launch} {e : Env} {R : Room} {s : State} {m : MethodId} {args : Array Value} {below : List Frame} {meth : Method} {c : Code} {H : Heap} {locs : List Loc} {cells slots : Nat} {Q : State → Prop}
variable {cc : ByteArray} {pc nL : Nat} {ls : Array Slot} {rest : List Value} {G : zg_T} {S : zs_T} {own : String} {α β : Type}
theorem zr_lti {x : Int32} {f : Int32 → β} {o : β} (h : zc_lt x f = o) (k : ∀ v : Int32, f v = o → W p l e R s m args below meth c H locs cells slots Q (F0 m pc ls (.int v :: rest))) : W p l e R s m args below meth c H locs cells slots Q (F0 m pc ls (.int x :: rest)) := k x h
theorem zr_ltl {x : Int64} {f : Int64 → β} {o : β} (h : zc_lt x f = o) (k : ∀ v : Int64, f v = o → W p l e R s m args below meth c H locs cells slots Q (F0 m pc ls (.long v :: rest))) : W p l e R s m args below meth c H locs cells slots Q (F0 m pc ls (.long x :: rest)) := k x h
theorem zr_if_eq (C : zx_C p s m args meth c G own cc nL) {x : Int32} {off : Int} {tgt : Nat} {A B : α} {o : α} [Decidable (x = 0)] (hdg : decode cc pc = .ok (.ifCond .eq off, 3)) (ht : (pc : Int) + off = (tgt : Int)) (h : (if x = 0 then A else B) = o)
    (kt : A = o → W p l e R s m args below meth c H locs cells slots Q (F0 m tgt ls rest)) (kf : B = o → W p l e R s m args below meth c H locs cells slots Q (F0 m (pc + 3) ls rest)) : W p l e R s m args below meth c H locs cells slots Q (F0 m pc ls (.int x :: rest)) :=
  lv_if_eq C.1 C.2.1 hdg ht (fun q => kt ((if_pos q).symm.trans h)) (fun q => kf ((if_neg q).symm.trans h))
theorem zr_if_ne (C : zx_C p s m args meth c G own cc nL) {x : Int32} {off : Int} {tgt : Nat} {A B : α} {o : α} [Decidable (x = 0)] (hdg : decode cc pc = .ok (.ifCond .ne off, 3)) (ht : (pc : Int) + off = (tgt : Int)) (h : (if x = 0 then B else A) = o)
    (kt : A = o → W p l e R s m args below meth c H locs cells slots Q (F0 m tgt ls rest)) (kf : B = o → W p l e R s m args below meth c H locs cells slots Q (F0 m (pc + 3) ls rest)) : W p l e R s m args below meth c H locs cells slots Q (F0 m pc ls (.int x :: rest)) :=
  lv_if_ne C.1 C.2.1 hdg ht (fun q => kt ((if_neg q).symm.trans h)) (fun q => kf ((if_pos q).symm.trans h))
theorem zr_if_lt (C : zx_C p s m args meth c G own cc nL) {x : Int32} {off : Int} {tgt : Nat} {A B : α} {o : α} [Decidable (x < 0)] (hdg : decode cc pc = .ok (.ifCond .lt off, 3)) (ht : (pc : Int) + off = (tgt : Int)) (h : (if x < 0 then A else B) = o)
    (kt : A = o → W p l e R s m args below meth c H locs cells slots Q (F0 m tgt ls rest)) (kf : B = o → W p l e R s m args below meth c H locs cells slots Q (F0 m (pc + 3) ls rest)) : W p l e R s m args below meth c H locs cells slots Q (F0 m pc ls (.int x :: rest)) :=
  lv_if_lt C.1 C.2.1 hdg ht (fun q => kt ((if_pos q).symm.trans h)) (fun q => kf ((if_neg q).symm.trans h))
theorem zr_if_ge (C : zx_C p s m args meth c G own cc nL) {x : Int32} {off : Int} {tgt : Nat} {A B : α} {o : α} [Decidable (0 ≤ x)] (hdg : decode cc pc = .ok (.ifCond .ge off, 3)) (ht : (pc : Int) + off = (tgt : Int)) (h : (if 0 ≤ x then A else B) = o)
    (kt : A = o → W p l e R s m args below meth c H locs cells slots Q (F0 m tgt ls rest)) (kf : B = o → W p l e R s m args below meth c H locs cells slots Q (F0 m (pc + 3) ls rest)) : W p l e R s m args below meth c H locs cells slots Q (F0 m pc ls (.int x :: rest)) :=
  lv_if_ge C.1 C.2.1 hdg ht (fun q => kt ((if_pos q).symm.trans h)) (fun q => kf ((if_neg q).symm.trans h))
theorem zr_if_gt (C : zx_C p s m args meth c G own cc nL) {x : Int32} {off : Int} {tgt : Nat} {A B : α} {o : α} [Decidable (0 < x)] (hdg : decode cc pc = .ok (.ifCond .gt off, 3)) (ht : (pc : Int) + off = (tgt : Int)) (h : (if 0 < x then A else B) = o)
    (kt : A = o → W p l e R s m args below meth c H locs cells slots Q (F0 m tgt ls rest)) (kf : B = o → W p l e R s m args below meth c H locs cells slots Q (F0 m (pc + 3) ls rest)) : W p l e R s m args below meth c H locs cells slots Q (F0 m pc ls (.int x :: rest)) :=
  lv_if_gt C.1 C.2.1 hdg ht (fun q => kt ((if_pos q).symm.trans h)) (fun q => kf ((if_neg q).symm.trans h))
theorem zr_if_le (C : zx_C p s m args meth c G own cc nL) {x : Int32} {off : Int} {tgt : Nat} {A B : α} {o : α} [Decidable (x ≤ 0)] (hdg : decode cc pc = .ok (.ifCond .le off, 3)) (ht : (pc : Int) + off = (tgt : Int)) (h : (if x ≤ 0 then A else B) = o)
    (kt : A = o → W p l e R s m args below meth c H locs cells slots Q (F0 m tgt ls rest)) (kf : B = o → W p l e R s m args below meth c H locs cells slots Q (F0 m (pc + 3) ls rest)) : W p l e R s m args below meth c H locs cells slots Q (F0 m pc ls (.int x :: rest)) :=
  lv_if_le C.1 C.2.1 hdg ht (fun q => kt ((if_pos q).symm.trans h)) (fun q => kf ((if_neg q).symm.trans h))
theorem zr_ic_eq (C : zx_C p s m args meth c G own cc nL) {x y : Int32} {off : Int} {tgt : Nat} {A B : α} {o : α} [Decidable (x = y)] (hdg : decode cc pc = .ok (.if_icmp .eq off, 3)) (ht : (pc : Int) + off = (tgt : Int)) (h : (if x = y then A else B) = o)
    (kt : A = o → W p l e R s m args below meth c H locs cells slots Q (F0 m tgt ls rest)) (kf : B = o → W p l e R s m args below meth c H locs cells slots Q (F0 m (pc + 3) ls rest)) : W p l e R s m args below meth c H locs cells slots Q (F0 m pc ls (.int y :: .int x :: rest)) :=
  lv_icmp_eq C.1 C.2.1 hdg ht (fun q => kt ((if_pos q).symm.trans h)) (fun q => kf ((if_neg q).symm.trans h))
theorem zr_ic_ne (C : zx_C p s m args meth c G own cc nL) {x y : Int32} {off : Int} {tgt : Nat} {A B : α} {o : α} [Decidable (x = y)] (hdg : decode cc pc = .ok (.if_icmp .ne off, 3)) (ht : (pc : Int) + off = (tgt : Int)) (h : (if x = y then B else A) = o)
    (kt : A = o → W p l e R s m args below meth c H locs cells slots Q (F0 m tgt ls rest)) (kf : B = o → W p l e R s m args below meth c H locs cells slots Q (F0 m (pc + 3) ls rest)) : W p l e R s m args below meth c H locs cells slots Q (F0 m pc ls (.int y :: .int x :: rest)) :=
  lv_icmp_ne C.1 C.2.1 hdg ht (fun q => kt ((if_neg q).symm.trans h)) (fun q => kf ((if_pos q).symm.trans h))
theorem zr_ic_lt (C : zx_C p s m args meth c G own cc nL) {x y : Int32} {off : Int} {tgt : Nat} {A B : α} {o : α} [Decidable (x < y)] (hdg : decode cc pc = .ok (.if_icmp .lt off, 3)) (ht : (pc : Int) + off = (tgt : Int)) (h : (if x < y then A else B) = o)
    (kt : A = o → W p l e R s m args below meth c H locs cells slots Q (F0 m tgt ls rest)) (kf : B = o → W p l e R s m args below meth c H locs cells slots Q (F0 m (pc + 3) ls rest)) : W p l e R s m args below meth c H locs cells slots Q (F0 m pc ls (.int y :: .int x :: rest)) :=
  lv_icmp_lt C.1 C.2.1 hdg ht (fun q => kt ((if_pos q).symm.trans h)) (fun q => kf ((if_neg q).symm.trans h))
theorem zr_ic_ge (C : zx_C p s m args meth c G own cc nL) {x y : Int32} {off : Int} {tgt : Nat} {A B : α} {o : α} [Decidable (y ≤ x)] (hdg : decode cc pc = .ok (.if_icmp .ge off, 3)) (ht : (pc : Int) + off = (tgt : Int)) (h : (if y ≤ x then A else B) = o)
    (kt : A = o → W p l e R s m args below meth c H locs cells slots Q (F0 m tgt ls rest)) (kf : B = o → W p l e R s m args below meth c H locs cells slots Q (F0 m (pc + 3) ls rest)) : W p l e R s m args below meth c H locs cells slots Q (F0 m pc ls (.int y :: .int x :: rest)) :=
  lv_icmp_ge C.1 C.2.1 hdg ht (fun q => kt ((if_pos q).symm.trans h)) (fun q => kf ((if_neg q).symm.trans h))
theorem zr_ic_gt (C : zx_C p s m args meth c G own cc nL) {x y : Int32} {off : Int} {tgt : Nat} {A B : α} {o : α} [Decidable (y < x)] (hdg : decode cc pc = .ok (.if_icmp .gt off, 3)) (ht : (pc : Int) + off = (tgt : Int)) (h : (if y < x then A else B) = o)
    (kt : A = o → W p l e R s m args below meth c H locs cells slots Q (F0 m tgt ls rest)) (kf : B = o → W p l e R s m args below meth c H locs cells slots Q (F0 m (pc + 3) ls rest)) : W p l e R s m args below meth c H locs cells slots Q (F0 m pc ls (.int y :: .int x :: rest)) :=
  lv_icmp_gt C.1 C.2.1 hdg ht (fun q => kt ((if_pos q).symm.trans h)) (fun q => kf ((if_neg q).symm.trans h))
theorem zr_ic_le (C : zx_C p s m args meth c G own cc nL) {x y : Int32} {off : Int} {tgt : Nat} {A B : α} {o : α} [Decidable (x ≤ y)] (hdg : decode cc pc = .ok (.if_icmp .le off, 3)) (ht : (pc : Int) + off = (tgt : Int)) (h : (if x ≤ y then A else B) = o)
    (kt : A = o → W p l e R s m args below meth c H locs cells slots Q (F0 m tgt ls rest)) (kf : B = o → W p l e R s m args below meth c H locs cells slots Q (F0 m (pc + 3) ls rest)) : W p l e R s m args below meth c H locs cells slots Q (F0 m pc ls (.int y :: .int x :: rest)) :=
  lv_icmp_le C.1 C.2.1 hdg ht (fun q => kt ((if_pos q).symm.trans h)) (fun q => kf ((if_neg q).symm.trans h))
/-! a compare of two longs and its branch, in one -/
theorem zr_lc_eq (C : zx_C p s m args meth c G own cc nL) {x y : Int64} {off : Int} {tgt : Nat} {A B : α} {o : α} [Decidable (x = y)] (hd0 : decode cc pc = .ok (.lcmp, 1)) (hdg : decode cc (pc + 1) = .ok (.ifCond .eq off, 3)) (ht : ((pc + 1 : Nat) : Int) + off = (tgt : Int)) (h : (if x = y then A else B) = o)
    (kt : A = o → W p l e R s m args below meth c H locs cells slots Q (F0 m tgt ls rest)) (kf : B = o → W p l e R s m args below meth c H locs cells slots Q (F0 m (pc + 4) ls rest)) : W p l e R s m args below meth c H locs cells slots Q (F0 m pc ls (.long y :: .long x :: rest)) :=
  W.lcmp C.1 C.2.1 hd0 (lv_if_eq C.1 C.2.1 hdg ht (fun q => kt ((if_pos ((lg_cmp_eq x y).mp q)).symm.trans h)) (fun q => kf ((if_neg (fun z => q ((lg_cmp_eq x y).mpr z))).symm.trans h)))
theorem zr_lc_ne (C : zx_C p s m args meth c G own cc nL) {x y : Int64} {off : Int} {tgt : Nat} {A B : α} {o : α} [Decidable (x = y)] (hd0 : decode cc pc = .ok (.lcmp, 1)) (hdg : decode cc (pc + 1) = .ok (.ifCond .ne off, 3)) (ht : ((pc + 1 : Nat) : Int) + off = (tgt : Int)) (h : (if x = y then B else A) = o)
    (kt : A = o → W p l e R s m args below meth c H locs cells slots Q (F0 m tgt ls rest)) (kf : B = o → W p l e R s m args below meth c H locs cells slots Q (F0 m (pc + 4) ls rest)) : W p l e R s m args below meth c H locs cells slots Q (F0 m pc ls (.long y :: .long x :: rest)) :=
  W.lcmp C.1 C.2.1 hd0 (lv_if_ne C.1 C.2.1 hdg ht (fun q => kt ((if_neg (fun z => q ((lg_cmp_eq x y).mpr z))).symm.trans h)) (fun q => kf ((if_pos ((lg_cmp_eq x y).mp q)).symm.trans h)))
theorem zr_lc_lt (C : zx_C p s m args meth c G own cc nL) {x y : Int64} {off : Int} {tgt : Nat} {A B : α} {o : α} [Decidable (x < y)] (hd0 : decode cc pc = .ok (.lcmp, 1)) (hdg : decode cc (pc + 1) = .ok (.ifCond .lt off, 3)) (ht : ((pc + 1 : Nat) : Int) + off = (tgt : Int)) (h : (if x < y then A else B) = o)
    (kt : A = o → W p l e R s m args below meth c H locs cells slots Q (F0 m tgt ls rest)) (kf : B = o → W p l e R s m args below meth c H locs cells slots Q (F0 m (pc + 4) ls rest)) : W p l e R s m args below meth c H locs cells slots Q (F0 m pc ls (.long y :: .long x :: rest)) :=
  W.lcmp C.1 C.2.1 hd0 (lv_if_lt C.1 C.2.1 hdg ht (fun q => kt ((if_pos ((lg_cmp_lt x y).mp q)).symm.trans h)) (fun q => kf ((if_neg (fun z => q ((lg_cmp_lt x y).mpr z))).symm.trans h)))
theorem zr_lc_ge (C : zx_C p s m args meth c G own cc nL) {x y : Int64} {off : Int} {tgt : Nat} {A B : α} {o : α} [Decidable (y ≤ x)] (hd0 : decode cc pc = .ok (.lcmp, 1)) (hdg : decode cc (pc + 1) = .ok (.ifCond .ge off, 3)) (ht : ((pc + 1 : Nat) : Int) + off = (tgt : Int)) (h : (if y ≤ x then A else B) = o)
    (kt : A = o → W p l e R s m args below meth c H locs cells slots Q (F0 m tgt ls rest)) (kf : B = o → W p l e R s m args below meth c H locs cells slots Q (F0 m (pc + 4) ls rest)) : W p l e R s m args below meth c H locs cells slots Q (F0 m pc ls (.long y :: .long x :: rest)) :=
  W.lcmp C.1 C.2.1 hd0 (lv_if_ge C.1 C.2.1 hdg ht (fun q => kt ((if_pos ((lg_cmp_ge x y).mp q)).symm.trans h)) (fun q => kf ((if_neg (fun z => q ((lg_cmp_ge x y).mpr z))).symm.trans h)))
theorem zr_lc_gt (C : zx_C p s m args meth c G own cc nL) {x y : Int64} {off : Int} {tgt : Nat} {A B : α} {o : α} [Decidable (y < x)] (hd0 : decode cc pc = .ok (.lcmp, 1)) (hdg : decode cc (pc + 1) = .ok (.ifCond .gt off, 3)) (ht : ((pc + 1 : Nat) : Int) + off = (tgt : Int)) (h : (if y < x then A else B) = o)
    (kt : A = o → W p l e R s m args below meth c H locs cells slots Q (F0 m tgt ls rest)) (kf : B = o → W p l e R s m args below meth c H locs cells slots Q (F0 m (pc + 4) ls rest)) : W p l e R s m args below meth c H locs cells slots Q (F0 m pc ls (.long y :: .long x :: rest)) :=
  W.lcmp C.1 C.2.1 hd0 (lv_if_gt C.1 C.2.1 hdg ht (fun q => kt ((if_pos ((lg_cmp_gt x y).mp q)).symm.trans h)) (fun q => kf ((if_neg (fun z => q ((lg_cmp_gt x y).mpr z))).symm.trans h)))
theorem zr_lc_le (C : zx_C p s m args meth c G own cc nL) {x y : Int64} {off : Int} {tgt : Nat} {A B : α} {o : α} [Decidable (x ≤ y)] (hd0 : decode cc pc = .ok (.lcmp, 1)) (hdg : decode cc (pc + 1) = .ok (.ifCond .le off, 3)) (ht : ((pc + 1 : Nat) : Int) + off = (tgt : Int)) (h : (if x ≤ y then A else B) = o)
    (kt : A = o → W p l e R s m args below meth c H locs cells slots Q (F0 m tgt ls rest)) (kf : B = o → W p l e R s m args below meth c H locs cells slots Q (F0 m (pc + 4) ls rest)) : W p l e R s m args below meth c H locs cells slots Q (F0 m pc ls (.long y :: .long x :: rest)) :=
  W.lcmp C.1 C.2.1 hd0 (lv_if_le C.1 C.2.1 hdg ht (fun q => kt ((if_pos ((lg_cmp_le x y).mp q)).symm.trans h)) (fun q => kf ((if_neg (fun z => q ((lg_cmp_le x y).mpr z))).symm.trans h)))
/-! heap -/
theorem zr_iald (C : zx_C p s m args meth c G own cc nL) (w : zg_W G S s H locs) (k : Nat) {n : Nat} (hk : (zw_L G S)[k]? = some (zg_q G k, .inl (zg_I G, n, .inl (S.1 k)))) {i : Int32} (hdg : decode cc pc = .ok (.iaload, 1)) {x : Option α} {o : α} (h : zc_gi i n x = some o)
    (kk : x = some o → W p l e R s m args below meth c H locs cells slots Q (F0 m (pc + 1) ls (.int (S.1 k i.toNatClampNeg) :: rest))) : W p l e R s m args below meth c H locs cells slots Q (F0 m pc ls (.int i :: .ref (zg_q G k) :: rest)) :=
  va_iald C.1 C.2.1 C.2.2.2.2.2.2.1 w.1 k 0 hk rfl (zc_gi_x h).1 hdg (kk (zc_gi_x h).2)
theorem zr_lald (C : zx_C p s m args meth c G own cc nL) (w : zg_W G S s H locs) (k : Nat) {n : Nat} (hk : (zw_L G S)[k]? = some (zg_q G k, .inl (zg_J G, n, .inr (.inl (S.2 k))))) {i : Int32} (hdg : decode cc pc = .ok (.laload, 1)) {x : Option α} {o : α} (h : zc_gi i n x = some o)
    (kk : x = some o → W p l e R s m args below meth c H locs cells slots Q (F0 m (pc + 1) ls (.long (S.2 k i.toNatClampNeg) :: rest))) : W p l e R s m args below meth c H locs cells slots Q (F0 m pc ls (.int i :: .ref (zg_q G k) :: rest)) :=
  va_lald C.1 C.2.1 C.2.2.2.2.2.2.1 w.1 k 1 hk rfl (zc_gi_x h).1 hdg (kk (zc_gi_x h).2)
theorem zr_iast (C : zx_C p s m args meth c G own cc nL) (w : zg_W G S s H locs) (k : Nat) {n : Nat} (hk : (zw_L G S)[k]? = some (zg_q G k, .inl (zg_I G, n, .inl (S.1 k)))) (hs : ∀ f, (zw_L G S).set k (zg_q G k, .inl (zg_I G, n, .inl f)) = zw_L G (zs_ri S k f)) {i v : Int32} (hdg : decode cc pc = .ok (.iastore, 1)) {f : zs_T → Option α} {o : α} (h : zc_gi i n (zc_lt (zs_wi S k i.toNatClampNeg v) f) = some o)
    (kk : ∀ (S1 : zs_T) (H1 : Heap) (locs1 : List Loc), zg_W G S1 s H1 locs1 → f S1 = some o → W p l e R s m args below meth c H1 locs1 cells slots Q (F0 m (pc + 1) ls rest)) : W p l e R s m args below meth c H locs cells slots Q (F0 m pc ls (.int v :: .int i :: .ref (zg_q G k) :: rest)) :=
  va_iast C.1 C.2.1 C.2.2.2.2.2.2.1 w.1 w.2.1 w.2.2 k 0 hk rfl (zc_gi_x h).1 hdg (fun H1 locs1 a b d => kk _ H1 locs1 ⟨by rw [← hs]; exact a, by rw [← hs]; exact b, d⟩ (zc_gi_x h).2)
theorem zr_last (C : zx_C p s m args meth c G own cc nL) (w : zg_W G S s H locs) (k : Nat) {n : Nat} (hk : (zw_L G S)[k]? = some (zg_q G k, .inl (zg_J G, n, .inr (.inl (S.2 k))))) (hs : ∀ f, (zw_L G S).set k (zg_q G k, .inl (zg_J G, n, .inr (.inl f))) = zw_L G (zs_rl S k f)) {i : Int32} {v : Int64} (hdg : decode cc pc = .ok (.lastore, 1)) {f : zs_T → Option α} {o : α} (h : zc_gi i n (zc_lt (zs_wl S k i.toNatClampNeg v) f) = some o)
    (kk : ∀ (S1 : zs_T) (H1 : Heap) (locs1 : List Loc), zg_W G S1 s H1 locs1 → f S1 = some o → W p l e R s m args below meth c H1 locs1 cells slots Q (F0 m (pc + 1) ls rest)) : W p l e R s m args below meth c H locs cells slots Q (F0 m pc ls (.long v :: .int i :: .ref (zg_q G k) :: rest)) :=
  va_last C.1 C.2.1 C.2.2.2.2.2.2.1 w.1 w.2.1 w.2.2 k 1 hk rfl (zc_gi_x h).1 hdg (fun H1 locs1 a b d => kk _ H1 locs1 ⟨by rw [← hs]; exact a, by rw [← hs]; exact b, d⟩ (zc_gi_x h).2)
theorem zr_alen (C : zx_C p s m args meth c G own cc nL) (w : zg_W G S s H locs) (k : Nat) {n : Nat} (hk : (zw_L G S)[k]? = some (zg_q G k, .inl (zg_I G, n, .inl (S.1 k)))) {v : Int32} (hv : Int32.ofNat n = v) (hdg : decode cc pc = .ok (.arraylength, 1))
    (kk : W p l e R s m args below meth c H locs cells slots Q (F0 m (pc + 1) ls (.int v :: rest))) : W p l e R s m args below meth c H locs cells slots Q (F0 m pc ls (.ref (zg_q G k) :: rest)) :=
  va_alen C.1 C.2.1 C.2.2.2.2.2.2.1 w.1 k 0 hk rfl hv hdg kk
theorem zr_get (C : zx_C p s m args meth c G own cc nL) (w : zg_W G S s H locs) (k : Nat) {ci N index : Nat} {fs : List Value} {C0 : String} {T : u_T} (hin : ∀ w ∈ u_ws C0 T N, w ∈ zt_G) (hk : (zw_L G S)[k]? = some (zg_q G k, .inr (ci, fs))) (hc : vwCl[ci]? = some (C0, T, N)) (j : Nat) (hj : j < N) (hlink : Cond.fieldLink own index (T j).1 (T j).2.1 (T j).2.2.1 ∈ zt_G) {v : Value} (hv : fs[j]? = some v) (hdg : decode cc pc = .ok (.getfield index, 3))
    (kk : W p l e R s m args below meth c H locs cells slots Q (F0 m (pc + 3) ls (v :: rest))) : W p l e R s m args below meth c H locs cells slots Q (F0 m pc ls (.ref (zg_q G k) :: rest)) :=
  va_get C.1 C.2.1 C.2.2.2.2.1 hin C.2.2.2.1 C.2.2.2.2.2.2.1 w.1 k hk hc j hj (C.2.2.2.2.1 _ hlink) (fun _ h => h) hv hdg kk
theorem zr_getN (C : zx_C p s m args meth c G own cc nL) (w : zg_W G S s H locs) (k : Nat) {ci N index : Nat} {fs : List Value} {C0 : String} {T : u_T} (hin : ∀ w ∈ u_ws C0 T N, w ∈ zt_G) (hk : (zw_L G S)[k]? = some (zg_q G k, .inr (ci, fs))) (hc : vwCl[ci]? = some (C0, T, N)) (j : Nat) (hj : j < N) (hlink : (own, index, (T j).1, (T j).2.1, (T j).2.2.1) ∈ zn_F) {v : Value} (hv : fs[j]? = some v) (hdg : decode cc pc = .ok (.getfield index, 3))
    (kk : W p l e R s m args below meth c H locs cells slots Q (F0 m (pc + 3) ls (v :: rest))) : W p l e R s m args below meth c H locs cells slots Q (F0 m pc ls (.ref (zg_q G k) :: rest)) :=
  va_getN C.1 C.2.1 C.2.2.2.2.1 hin C.2.2.2.1 C.2.2.2.2.2.2.1 w.1 k hk hc j hj ((C.2.2.2.2.2.2.2.2.1 _ hlink).use rfl) (fun _ h => h) hv hdg kk
theorem zr_put (C : zx_C p s m args meth c G own cc nL) (w : zg_W G S s H locs) (k : Nat) {ci N index : Nat} {fs : List Value} {C0 : String} {T : u_T} (hin : ∀ w ∈ u_ws C0 T N, w ∈ zt_G) (ty0 : Nat → FieldType) (hty : ∀ k, k < N → parseFieldDescriptor (T k).2.2.1 = some (ty0 k)) (hnm : ∀ a, a < N → ∀ b, b < N → a ≠ b → (T a).2.1 ≠ (T b).2.1) (hk : (zw_L G S)[k]? = some (zg_q G k, .inr (ci, fs))) (hc : vwCl[ci]? = some (C0, T, N)) (j : Nat) (hj : j < N) (hlink : Cond.fieldLink own index (T j).1 (T j).2.1 (T j).2.2.1 ∈ zt_G) (hfin : (T j).2.2.2 = false) {ty : FieldType} {v : Value} (hd : parseFieldDescriptor (T j).2.2.1 = some ty) (hn : narrow ty v = v) (hfit : fits ty v = true) (hl : j < fs.length) {S2 : zs_T} (hs : (zw_L G S).set k (zg_q G k, .inr (ci, fs.set j v)) = zw_L G S2) (hdg : decode cc pc = .ok (.putfield index, 3)) {f : zs_T → β} {o : β} (h : zc_lt S2 f = o)
    (kk : ∀ (S1 : zs_T) (H1 : Heap) (locs1 : List Loc), zg_W G S1 s H1 locs1 → f S1 = o → W p l e R s m args below meth c H1 locs1 cells slots Q (F0 m (pc + 3) ls rest)) : W p l e R s m args below meth c H locs cells slots Q (F0 m pc ls (v :: .ref (zg_q G k) :: rest)) :=
  va_put C.1 C.2.1 C.2.2.2.2.1 hin ty0 hty hnm C.2.2.2.1 C.2.2.2.2.2.2.1 w.1 w.2.1 w.2.2 k hk hc j hj (C.2.2.2.2.1 _ hlink) (fun _ h => h) hfin hd hn hfit hl hdg (fun H1 locs1 a b d => kk _ H1 locs1 ⟨by rw [← hs]; exact a, by rw [← hs]; exact b, d⟩ h)
theorem zr_gets (C : zx_C p s m args meth c G own cc nL) (w : zg_W G S s H locs) (j : Nat) (hj : j < 13) {index : Nat} (hlink : Cond.fieldLink own index (zt_C j) (zt_n j) "[I" ∈ zt_G) (hdg : decode cc pc = .ok (.getstatic index, 3))
    (kk : W p l e R s m args below meth c H locs cells slots Q (F0 m (pc + 3) ls (.ref (zg_t G j) :: rest))) : W p l e R s m args below meth c H locs cells slots Q (F0 m pc ls rest) :=
  va_gets C.1 C.2.1 (C.2.2.2.2.2.2.2.2.2.2.1 j hj).1 w.2.2 C.2.2.2.1 (C.2.2.2.2.1 _ hlink) (fun _ h => h) hdg kk
theorem zr_getsN (C : zx_C p s m args meth c G own cc nL) (w : zg_W G S s H locs) (j : Nat) (hj : j < 13) {index : Nat} (hlink : (own, index, zt_C j, zt_n j, "[I") ∈ zn_F) (hdg : decode cc pc = .ok (.getstatic index, 3))
    (kk : W p l e R s m args below meth c H locs cells slots Q (F0 m (pc + 3) ls (.ref (zg_t G j) :: rest))) : W p l e R s m args below meth c H locs cells slots Q (F0 m pc ls rest) :=
  va_getsN C.1 C.2.1 (C.2.2.2.2.2.2.2.2.2.2.1 j hj).1 w.2.2 C.2.2.2.1 ((C.2.2.2.2.2.2.2.2.1 _ hlink).use rfl) (fun _ h => h) hdg kk
theorem zr_tab (C : zx_C p s m args meth c G own cc nL) (w : zg_W G S s H locs) (j : Nat) (hj : j < 13) {n : Nat} (hn : zt_N j = n) {g : Nat → Int32} (hg : zt_v j = g) {i : Int32} (hdg : decode cc pc = .ok (.iaload, 1)) {x : Option α} {o : α} (h : zc_gi i n x = some o)
    (kk : x = some o → W p l e R s m args below meth c H locs cells slots Q (F0 m (pc + 1) ls (.int (g i.toNatClampNeg) :: rest))) : W p l e R s m args below meth c H locs cells slots Q (F0 m pc ls (.int i :: .ref (zg_t G j) :: rest)) := by
  subst hn; subst hg
  exact va_ti C.1 C.2.1 (C.2.2.2.2.2.2.2.2.2.2.1 j hj).2 w.2.2 (zc_gi_x h).1 rfl hdg (kk (zc_gi_x h).2)
theorem zr_tlen (C : zx_C p s m args meth c G own cc nL) (w : zg_W G S s H locs) (j : Nat) (hj : j < 13) {v : Int32} (hv : Int32.ofNat (zt_N j) = v) (hdg : decode cc pc = .ok (.arraylength, 1))
    (kk : W p l e R s m args below meth c H locs cells slots Q (F0 m (pc + 1) ls (.int v :: rest))) : W p l e R s m args below meth c H locs cells slots Q (F0 m pc ls (.ref (zg_t G j) :: rest)) :=
  va_tlen C.1 C.2.1 (C.2.2.2.2.2.2.2.2.2.2.1 j hj).2 w.2.2 hv hdg kk
/-! calls -/
theorem zr_run {v : Option Value} {S1 : zs_T} {st0 : List Value} {a : Array Value} (hr : va_Run p l e R s m args below meth c H locs cells slots 0 0 (F0 m pc ls st0) rest (zg_Q G v S1 a) (zg_A G)) (w : zg_W G S s H locs)
    (kk : ∀ (H1 : Heap) (locs1 : List Loc), zg_W G S1 s H1 locs1 → W p l e R s m args below meth c H1 locs1 cells slots Q (F0 m (pc + 3) ls (v.toList ++ rest))) : W p l e R s m args below meth c H locs cells slots Q (F0 m pc ls st0) := by
  intro T hT X
  obtain ⟨v', st₀, t, T', L, h0, X', hL, e1, e2, ⟨hv, ⟨-, hP, hD⟩, hz, hk⟩, st⟩ := hr T hT X
  cases hv
  rw [h0] at hz hk
  obtain ⟨t2, a1, b1⟩ := kk T'.heap (locs ++ L) ⟨by rw [e1]; exact hP, hD, Nat.le_trans w.2.2.1 (by rw [e1]; exact hz), fun q h1 h2 => by
      rw [e1, hk q (Nat.lt_of_lt_of_le h1 w.2.2.1) h2]; exact w.2.2.2.1 q h1 h2, fun q hq => by
      rcases List.mem_append.mp hq with h | h
      · exact w.2.2.2.2 q h
      · exact hL q h⟩ T' rfl X'
  exact ⟨t2, st t2 a1, b1⟩
theorem zr_callS {y : MethodName} {bytes : ByteArray} {maxL n index : Nat} {ret : Option FieldType} {rm : Room} {v : Option Value} {S1 : zs_T} {As st0 : List Value} (C : zx_C p s m args meth c G own cc nL) (w : zg_W G S s H locs)
    (hM : Met l y (Cond.code y bytes maxL ret :: zt_G) rm (va_Pc As (zg_P G S)) (zg_Q G v S1) 0 0 (zg_A G)) (hcode : Cond.code y bytes maxL ret ∈ zt_G) (hlink : Cond.methodLink own index y ∈ zt_G) (hstat : Cond.static y ∈ zt_G) (hini : Cond.initialized y.cls ∈ zt_G)
    (hd : y.cls ≠ "java/lang/invoke/MethodHandle" ∧ y.cls ≠ "java/lang/invoke/VarHandle" ∧ (parseMethodDescriptor y.desc).map (fun d => d.parameters.length) = some n) (hrm : rm.cells = 0 ∧ rm.slots = 0) (hR : rm.frames + 1 ≤ R.frames ∧ 8 + (maxL + 11) + rm.locals ≤ R.locals)
    (hl : ls.size = nL) (hn : As.length = n) (hst : st0 = As.reverse ++ rest) (hw : (rest.map fun v => v.category).sum ≤ 8) (hdg : decode cc pc = .ok (.invokestatic index, 3)) (hf : cells ≤ R.cells ∧ slots ≤ R.slots)
    (kk : ∀ (H1 : Heap) (locs1 : List Loc), zg_W G S1 s H1 locs1 → W p l e R s m args below meth c H1 locs1 cells slots Q (F0 m (pc + 3) ls (v.toList ++ rest))) : W p l e R s m args below meth c H locs cells slots Q (F0 m pc ls st0) :=
  zr_run (va_runS (As := As) (rest := rest) (nL := nL) (n := n) ⟨C.1, C.2.1, C.2.2.1, C.2.2.2.1, C.2.2.2.2.1⟩ hM ⟨callB_of n C.2.2.2.2.1 (zt_in hcode) rfl hrm.1 hrm.2 (C.2.2.2.2.1 _ hini) (C.2.2.2.2.1 _ hlink) hd hR, C.2.2.2.2.1 _ hstat⟩
    ⟨zg_blind, fun U hU hW => ⟨rfl, zg_P.to C.2.2.2.2.2.2 w hU hW⟩⟩ rfl hn hl hst (by show 2 * 0 + _ ≤ 8; omega) hdg ⟨hf.1, hf.2⟩) w kk
theorem zr_callV {y : MethodName} {bytes : ByteArray} {maxL n index : Nat} {ret : Option FieldType} {rm : Room} {v : Option Value} {S1 : zs_T} {As st0 : List Value} (C : zx_C p s m args meth c G own cc nL) (w : zg_W G S s H locs) (k : Nat) {ci N : Nat} {fs : List Value} {T : u_T} (hk : (zw_L G S)[k]? = some (zg_q G k, .inr (ci, fs))) (hc : vwCl[ci]? = some (y.cls, T, N))
    (hM : Met l y (Cond.code y bytes maxL ret :: zt_G) rm (va_Pc (.ref (zg_q G k) :: As) (zg_P G S)) (zg_Q G v S1) 0 0 (zg_A G)) (hcode : Cond.code y bytes maxL ret ∈ zt_G) (hlink : Cond.methodLink own index y ∈ zt_G) (hinst : Cond.instanceMethod y ∈ zt_G) (hsel : Cond.selects y.cls y y ∈ zt_G) (hini : Cond.initialized y.cls ∈ zt_G)
    (hd : y.cls ≠ "java/lang/invoke/MethodHandle" ∧ y.cls ≠ "java/lang/invoke/VarHandle" ∧ (parseMethodDescriptor y.desc).map (fun d => d.parameters.length) = some n) (hrm : rm.cells = 0 ∧ rm.slots = 0) (hR : rm.frames + 1 ≤ R.frames ∧ 8 + (maxL + 11) + rm.locals ≤ R.locals)
    (hl : ls.size = nL) (hn : As.length = n) (hst : st0 = As.reverse ++ .ref (zg_q G k) :: rest) (hw : (rest.map fun v => v.category).sum ≤ 8) (hdg : decode cc pc = .ok (.invokevirtual index, 3)) (hf : cells ≤ R.cells ∧ slots ≤ R.slots)
    (kk : ∀ (H1 : Heap) (locs1 : List Loc), zg_W G S1 s H1 locs1 → W p l e R s m args below meth c H1 locs1 cells slots Q (F0 m (pc + 3) ls (v.toList ++ rest))) : W p l e R s m args below meth c H locs cells slots Q (F0 m pc ls st0) :=
  zr_run (va_runV (As := As) (rest := rest) (nL := nL) (n := n) (C := y.cls) ⟨C.1, C.2.1, C.2.2.1, C.2.2.2.1, C.2.2.2.2.1⟩ hM ⟨callB_of n C.2.2.2.2.1 (zt_in hcode) rfl hrm.1 hrm.2 (C.2.2.2.2.1 _ hini) (C.2.2.2.2.1 _ hlink) hd hR, C.2.2.2.2.1 _ hinst, C.2.2.2.2.1 _ hsel⟩
    ⟨zg_blind, va_recv C.2.2.2.2.2.2.1 w.1 hc hk, fun U hU hW => ⟨rfl, zg_P.to C.2.2.2.2.2.2 w hU hW⟩⟩ rfl hn hl hst (by show 2 * 0 + _ ≤ 8; omega) hdg ⟨hf.1, hf.2⟩) w kk
/-! ends -/
theorem zr_reti (C : zx_C p s m args meth c G own cc nL) (w : zg_W G S s H locs) (hr : meth.sig.returnType = some .int) (hdg : decode cc pc = .ok (.ireturn, 1)) {v : Int32} {v1 : Int32} {S1 : zs_T} (hv : v = v1) (hS : S = S1) : W p l e R s m args below meth c H locs cells slots (MQ below (zg_Q G (some (.int v1)) S1) args s cells slots (zg_A G)) (F0 m pc ls [.int v]) := by
  subst hv; subst hS
  exact W.iret C.1 C.2.1 hr (fun t ht hW => ⟨rfl, zg_P.to C.2.2.2.2.2.2 w ht hW, w.2.2.F ht⟩) w.2.2.2.2 hdg C.2.2.2.2.2.1
theorem zr_retl (C : zx_C p s m args meth c G own cc nL) (w : zg_W G S s H locs) (hr : meth.sig.returnType = some .long) (hdg : decode cc pc = .ok (.lreturn, 1)) {v : Int64} {v1 : Int64} {S1 : zs_T} (hv : v = v1) (hS : S = S1) : W p l e R s m args below meth c H locs cells slots (MQ below (zg_Q G (some (.long v1)) S1) args s cells slots (zg_A G)) (F0 m pc ls [.long v]) := by
  subst hv; subst hS
  exact W.lret C.1 C.2.1 hr (fun t ht hW => ⟨rfl, zg_P.to C.2.2.2.2.2.2 w ht hW, w.2.2.F ht⟩) w.2.2.2.2 hdg C.2.2.2.2.2.1
theorem zr_retv (C : zx_C p s m args meth c G own cc nL) (w : zg_W G S s H locs) (hr : meth.sig.returnType = none) (hdg : decode cc pc = .ok (.return_, 1)) {S1 : zs_T} (hS : S = S1) : W p l e R s m args below meth c H locs cells slots (MQ below (zg_Q G none S1) args s cells slots (zg_A G)) (F0 m pc ls []) := by
  subst hS
  exact W.vret C.1 C.2.1 hr (fun t ht hW => ⟨rfl, zg_P.to C.2.2.2.2.2.2 w ht hW, w.2.2.F ht⟩) w.2.2.2.2 hdg C.2.2.2.2.2.1
end ZR

