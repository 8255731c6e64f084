abbrev T_if_over : Type := Int32 × (Nat → Int32) × (Nat → Int32) × (Nat → Int32) × (Nat → Int32) × (Nat → Int32) × (Nat → Int32) × (Nat → Int32) × (Nat → Int32) × (Nat → Int32) × Int32 × Int32 × Int32 × Int32 × Int32
abbrev U_if_over_25 : Type := Int32 × (Nat → Int32) × (Nat → Int32) × (Nat → Int32) × (Nat → Int32) × (Nat → Int32) × Int32 × Int32 × Int32
noncomputable def b_if_over_25 (x : Int32) (a24 : Nat → Int32) (a25 : Nat → Int32) (a27 : Nat → Int32) (a28 : Nat → Int32) (a29 : Nat → Int32) (a30 : Nat → Int32) (f23_8 : Int32) (f23_9 : Int32) (b17 : Nat → Int32) (b20 : Nat → Int32) (b21 : Nat → Int32) (b22 : Nat → Int32) (c16_6 : Int32) (c16_8 : Int32) (l2 : Int32) (b18 : Nat → Int32) (b19 : Nat → Int32) (b26 : Nat → Int32) (b50 : Nat → Int32) (b51 : Nat → Int32) (c16_7 : Int32) (c16_9 : Int32) (c16_10 : Int32) : Option (U_if_over_25 ⊕ T_if_over) :=
  bif decide (x < l2) then
   some (.inr ((-2), b17, b18, b19, b20, b21, b22, b26, b50, b51, c16_6, c16_7, c16_8, c16_9, c16_10))
  else
   zl (w_sc_placesThatAre 1 b18) (fun v13 =>
   bif !decide (v13 = 0) then
    zbd (q_fr_burnFor 1 b17 b18 b19 b20 b21 b22 a24 a25 b26 a27 a28 a29 a30 b50 b51 c16_6 c16_7 c16_8 c16_9 c16_10 (f23_8) (f23_9)) (fun v14 =>
    some (.inl (l2 + 1, ((v14.1)), ((v14.2.1)), ((v14.2.2.1)), ((v14.2.2.2.1)), ((v14.2.2.2.2.1)), (v14.2.2.2.2.2.1), (v14.2.2.2.2.2.2.1), (v14.2.2.2.2.2.2.2))))
   else
    some (.inr (l2, b17, b18, b19, b20, b21, b22, b26, b50, b51, c16_6, c16_7, c16_8, c16_9, c16_10)))
noncomputable def f_if_over_25 (x : Int32) (a24 : Nat → Int32) (a25 : Nat → Int32) (a27 : Nat → Int32) (a28 : Nat → Int32) (a29 : Nat → Int32) (a30 : Nat → Int32) (f23_8 : Int32) (f23_9 : Int32) (b17 : Nat → Int32) (b20 : Nat → Int32) (b21 : Nat → Int32) (b22 : Nat → Int32) (c16_6 : Int32) (c16_8 : Int32) : U_if_over_25 → Option (U_if_over_25 ⊕ T_if_over) := fun s => b_if_over_25 x a24 a25 a27 a28 a29 a30 f23_8 f23_9 b17 b20 b21 b22 c16_6 c16_8 s.1 s.2.1 s.2.2.1 s.2.2.2.1 s.2.2.2.2.1 s.2.2.2.2.2.1 s.2.2.2.2.2.2.1 s.2.2.2.2.2.2.2.1 s.2.2.2.2.2.2.2.2
noncomputable def l_if_over_25 (x : Int32) (a24 : Nat → Int32) (a25 : Nat → Int32) (a27 : Nat → Int32) (a28 : Nat → Int32) (a29 : Nat → Int32) (a30 : Nat → Int32) (f23_8 : Int32) (f23_9 : Int32) (b17 : Nat → Int32) (b20 : Nat → Int32) (b21 : Nat → Int32) (b22 : Nat → Int32) (c16_6 : Int32) (c16_8 : Int32) (l2 : Int32) (b18 : Nat → Int32) (b19 : Nat → Int32) (b26 : Nat → Int32) (b50 : Nat → Int32) (b51 : Nat → Int32) (c16_7 : Int32) (c16_9 : Int32) (c16_10 : Int32) : Option T_if_over := zlp (f_if_over_25 x a24 a25 a27 a28 a29 a30 f23_8 f23_9 b17 b20 b21 b22 c16_6 c16_8) (l2, b18, b19, b26, b50, b51, c16_7, c16_9, c16_10)
noncomputable def q_if_over (x : Int32) (a3 : Nat → Int32) (a4 : Nat → Int32) (a5 : Nat → Int32) (a6 : Nat → Int32) (a7 : Nat → Int32) (a8 : Nat → Int32) (a17 : Nat → Int32) (a18 : Nat → Int32) (a19 : Nat → Int32) (a20 : Nat → Int32) (a21 : Nat → Int32) (a22 : Nat → Int32) (a24 : Nat → Int32) (a25 : Nat → Int32) (a26 : Nat → Int32) (a27 : Nat → Int32) (a28 : Nat → Int32) (a29 : Nat → Int32) (a30 : Nat → Int32) (a50 : Nat → Int32) (a51 : Nat → Int32) (f2_6 : Int32) (f2_7 : Int32) (f2_8 : Int32) (f2_9 : Int32) (f2_10 : Int32) (f16_6 : Int32) (f16_7 : Int32) (f16_8 : Int32) (f16_9 : Int32) (f16_10 : Int32) (f23_8 : Int32) (f23_9 : Int32) : Option T_if_over :=
  zl (w_if_isWithin x 1 100) (fun v1 =>
  bif !decide (v1 = 0) then
   zl (a0_sc_copyFrom a3 a17 a4 a18 a5 a19 a6 a20 a7 a21 a8 a22 (f2_6) (f2_7) (f2_8) (f2_9) (f2_10)) (fun v2 =>
   zl (a1_sc_copyFrom a3 a17 a4 a18 a5 a19 a6 a20 a7 a21 a8 a22 (f2_6) (f2_7) (f2_8) (f2_9) (f2_10)) (fun v3 =>
   zl (a2_sc_copyFrom a3 a17 a4 a18 a5 a19 a6 a20 a7 a21 a8 a22 (f2_6) (f2_7) (f2_8) (f2_9) (f2_10)) (fun v4 =>
   zl (a3_sc_copyFrom a3 a17 a4 a18 a5 a19 a6 a20 a7 a21 a8 a22 (f2_6) (f2_7) (f2_8) (f2_9) (f2_10)) (fun v5 =>
   zl (a4_sc_copyFrom a3 a17 a4 a18 a5 a19 a6 a20 a7 a21 a8 a22 (f2_6) (f2_7) (f2_8) (f2_9) (f2_10)) (fun v6 =>
   zl (a5_sc_copyFrom a3 a17 a4 a18 a5 a19 a6 a20 a7 a21 a8 a22 (f2_6) (f2_7) (f2_8) (f2_9) (f2_10)) (fun v7 =>
   zl (f0_sc_copyFrom a3 a17 a4 a18 a5 a19 a6 a20 a7 a21 a8 a22 (f2_6) (f2_7) (f2_8) (f2_9) (f2_10)) (fun v8 =>
   zl (f1_sc_copyFrom a3 a17 a4 a18 a5 a19 a6 a20 a7 a21 a8 a22 (f2_6) (f2_7) (f2_8) (f2_9) (f2_10)) (fun v9 =>
   zl (f2_sc_copyFrom a3 a17 a4 a18 a5 a19 a6 a20 a7 a21 a8 a22 (f2_6) (f2_7) (f2_8) (f2_9) (f2_10)) (fun v10 =>
   zl (f3_sc_copyFrom a3 a17 a4 a18 a5 a19 a6 a20 a7 a21 a8 a22 (f2_6) (f2_7) (f2_8) (f2_9) (f2_10)) (fun v11 =>
   zl (f4_sc_copyFrom a3 a17 a4 a18 a5 a19 a6 a20 a7 a21 a8 a22 (f2_6) (f2_7) (f2_8) (f2_9) (f2_10)) (fun v12 =>
   l_if_over_25 x a24 a25 a27 a28 a29 a30 f23_8 f23_9 v2 v5 v6 v7 v8 v10 0 v3 v4 a26 a50 a51 v9 v11 v12)))))))))))
  else
   some ((-1), a17, a18, a19, a20, a21, a22, a26, a50, a51, f16_6, f16_7, f16_8, f16_9, f16_10))
def P_if_over (Q : Int32 → (Nat → Int32) → (Nat → Int32) → (Nat → Int32) → (Nat → Int32) → (Nat → Int32) → (Nat → Int32) → (Nat → Int32) → (Nat → Int32) → (Nat → Int32) → (Nat → Int32) → (Nat → Int32) → (Nat → Int32) → (Nat → Int32) → (Nat → Int32) → (Nat → Int32) → (Nat → Int32) → (Nat → Int32) → (Nat → Int32) → (Nat → Int32) → (Nat → Int32) → (Nat → Int32) → Int32 → Int32 → Int32 → Int32 → Int32 → Int32 → Int32 → Int32 → Int32 → Int32 → Int32 → Int32 → Option (Int32 × (Nat → Int32) × (Nat → Int32) × (Nat → Int32) × (Nat → Int32) × (Nat → Int32) × (Nat → Int32) × (Nat → Int32) × (Nat → Int32) × (Nat → Int32) × Int32 × Int32 × Int32 × Int32 × Int32)) : zSp := fun as g => match as with
  | [.ref a, .int x] => bif Nat.beq a 0 && Nat.beq g.2.2.1 23 then zpe (Q x (g.1 3) (g.1 4) (g.1 5) (g.1 6) (g.1 7) (g.1 8) (g.1 17) (g.1 18) (g.1 19) (g.1 20) (g.1 21) (g.1 22) (g.1 24) (g.1 25) (g.1 26) (g.1 27) (g.1 28) (g.1 29) (g.1 30) (g.1 50) (g.1 51) (g.2.1 2 6) (g.2.1 2 7) (g.2.1 2 8) (g.2.1 2 9) (g.2.1 2 10) (g.2.1 16 6) (g.2.1 16 7) (g.2.1 16 8) (g.2.1 16 9) (g.2.1 16 10) (g.2.1 23 8) (g.2.1 23 9)) (fun t => (some (.int (t.1)), ((zua (zua (zua (zua (zua (zua (zua (zua (zua g.1 17 t.2.1) 18 t.2.2.1) 19 t.2.2.2.1) 20 t.2.2.2.2.1) 21 t.2.2.2.2.2.1) 22 t.2.2.2.2.2.2.1) 26 t.2.2.2.2.2.2.2.1) 50 t.2.2.2.2.2.2.2.2.1) 51 t.2.2.2.2.2.2.2.2.2.1), (zuf (zuf (zuf (zuf (zuf g.2.1 16 6 t.2.2.2.2.2.2.2.2.2.2.1) 16 7 t.2.2.2.2.2.2.2.2.2.2.2.1) 16 8 t.2.2.2.2.2.2.2.2.2.2.2.2.1) 16 9 t.2.2.2.2.2.2.2.2.2.2.2.2.2.1) 16 10 t.2.2.2.2.2.2.2.2.2.2.2.2.2.2), g.2.2))) else bif Nat.beq a 0 && Nat.beq g.2.2.1 31 then zpe (Q x (g.1 3) (g.1 4) (g.1 5) (g.1 6) (g.1 7) (g.1 8) (g.1 17) (g.1 18) (g.1 19) (g.1 20) (g.1 21) (g.1 22) (g.1 32) (g.1 33) (g.1 34) (g.1 35) (g.1 36) (g.1 37) (g.1 38) (g.1 50) (g.1 51) (g.2.1 2 6) (g.2.1 2 7) (g.2.1 2 8) (g.2.1 2 9) (g.2.1 2 10) (g.2.1 16 6) (g.2.1 16 7) (g.2.1 16 8) (g.2.1 16 9) (g.2.1 16 10) (g.2.1 31 8) (g.2.1 31 9)) (fun t => (some (.int (t.1)), ((zua (zua (zua (zua (zua (zua (zua (zua (zua g.1 17 t.2.1) 18 t.2.2.1) 19 t.2.2.2.1) 20 t.2.2.2.2.1) 21 t.2.2.2.2.2.1) 22 t.2.2.2.2.2.2.1) 34 t.2.2.2.2.2.2.2.1) 50 t.2.2.2.2.2.2.2.2.1) 51 t.2.2.2.2.2.2.2.2.2.1), (zuf (zuf (zuf (zuf (zuf g.2.1 16 6 t.2.2.2.2.2.2.2.2.2.2.1) 16 7 t.2.2.2.2.2.2.2.2.2.2.2.1) 16 8 t.2.2.2.2.2.2.2.2.2.2.2.2.1) 16 9 t.2.2.2.2.2.2.2.2.2.2.2.2.2.1) 16 10 t.2.2.2.2.2.2.2.2.2.2.2.2.2.2), g.2.2))) else none
  | _ => none
noncomputable abbrev S_if_over : zSp := P_if_over q_if_over
theorem hA10_if_over (F : Nat → Nat → Int32) : F = (zua (zua (zua (zua (zua (zua (zua (zua (zua F 17 (F 17)) 18 (F 18)) 19 (F 19)) 20 (F 20)) 21 (F 21)) 22 (F 22)) 34 (F 34)) 50 (F 50)) 51 (F 51)) := zuak_ix F [] [(17, none), (18, none), (19, none), (20, none), (21, none), (22, none), (34, none), (50, none), (51, none)] rfl
theorem hA9_if_over (F : Nat → Nat → Int32) (w0 w1 w2 w3 w4 w5 : Nat → Int32) : (zua (zua (zua (zua (zua (zua F 17 w0) 18 w1) 19 w2) 20 w3) 21 w4) 22 w5) = (zua (zua (zua (zua (zua (zua (zua (zua (zua F 17 w0) 18 w1) 19 w2) 20 w3) 21 w4) 22 w5) 34 (F 34)) 50 (F 50)) 51 (F 51)) := zuak_ix F [(17, w0), (18, w1), (19, w2), (20, w3), (21, w4), (22, w5)] [(17, some 0), (18, some 1), (19, some 2), (20, some 3), (21, some 4), (22, some 5), (34, none), (50, none), (51, none)] rfl
theorem hA8_if_over (F : Nat → Nat → Int32) (w0 w1 w2 w3 w4 w5 w6 w7 w8 w9 w10 w11 w12 w13 : Nat → Int32) : (zua (zua (zua (zua (zua (zua (zua (zua (zua (zua (zua (zua (zua (zua F 17 w0) 18 w1) 19 w2) 20 w3) 21 w4) 22 w5) 34 w6) 50 w7) 51 w8) 18 w9) 19 w10) 34 w11) 50 w12) 51 w13) = (zua (zua (zua (zua (zua (zua (zua (zua (zua F 17 w0) 18 w9) 19 w10) 20 w3) 21 w4) 22 w5) 34 w11) 50 w12) 51 w13) := zuak_ix F [(17, w0), (18, w1), (19, w2), (20, w3), (21, w4), (22, w5), (34, w6), (50, w7), (51, w8), (18, w9), (19, w10), (34, w11), (50, w12), (51, w13)] [(17, some 0), (18, some 9), (19, some 10), (20, some 3), (21, some 4), (22, some 5), (34, some 11), (50, some 12), (51, some 13)] rfl
theorem hA7_if_over (F : Nat → Nat → Int32) (w0 w1 w2 w3 w4 w5 w6 w7 w8 : Nat → Int32) : (zua (zua (zua (zua (zua (zua (zua (zua (zua F 17 w0) 18 w1) 19 w2) 20 w3) 21 w4) 22 w5) 34 w6) 50 w7) 51 w8) = (zua (zua (zua (zua (zua (zua (zua (zua (zua F 17 w0) 18 w1) 19 w2) 20 w3) 21 w4) 22 w5) 34 w6) 50 w7) 51 w8) := zuak_ix F [(17, w0), (18, w1), (19, w2), (20, w3), (21, w4), (22, w5), (34, w6), (50, w7), (51, w8)] [(17, some 0), (18, some 1), (19, some 2), (20, some 3), (21, some 4), (22, some 5), (34, some 6), (50, some 7), (51, some 8)] rfl
theorem hF6_if_over (F : Nat → Nat → Int32) : F = (zuf (zuf (zuf (zuf (zuf F 16 6 (F 16 6)) 16 7 (F 16 7)) 16 8 (F 16 8)) 16 9 (F 16 9)) 16 10 (F 16 10)) := zufk_ix F [] [((16, 6), none), ((16, 7), none), ((16, 8), none), ((16, 9), none), ((16, 10), none)] rfl
theorem hA5_if_over (F : Nat → Nat → Int32) : F = (zua (zua (zua (zua (zua (zua (zua (zua (zua F 17 (F 17)) 18 (F 18)) 19 (F 19)) 20 (F 20)) 21 (F 21)) 22 (F 22)) 26 (F 26)) 50 (F 50)) 51 (F 51)) := zuak_ix F [] [(17, none), (18, none), (19, none), (20, none), (21, none), (22, none), (26, none), (50, none), (51, none)] rfl
theorem hA4_if_over (F : Nat → Nat → Int32) (w0 w1 w2 w3 w4 w5 : Nat → Int32) : (zua (zua (zua (zua (zua (zua F 17 w0) 18 w1) 19 w2) 20 w3) 21 w4) 22 w5) = (zua (zua (zua (zua (zua (zua (zua (zua (zua F 17 w0) 18 w1) 19 w2) 20 w3) 21 w4) 22 w5) 26 (F 26)) 50 (F 50)) 51 (F 51)) := zuak_ix F [(17, w0), (18, w1), (19, w2), (20, w3), (21, w4), (22, w5)] [(17, some 0), (18, some 1), (19, some 2), (20, some 3), (21, some 4), (22, some 5), (26, none), (50, none), (51, none)] rfl
theorem hF3_if_over (F : Nat → Nat → Int32) (w0 w1 w2 w3 w4 w5 w6 w7 : Int32) : (zuf (zuf (zuf (zuf (zuf (zuf (zuf (zuf F 16 6 w0) 16 7 w1) 16 8 w2) 16 9 w3) 16 10 w4) 16 7 w5) 16 9 w6) 16 10 w7) = (zuf (zuf (zuf (zuf (zuf F 16 6 w0) 16 7 w5) 16 8 w2) 16 9 w6) 16 10 w7) := zufk_ix F [((16, 6), w0), ((16, 7), w1), ((16, 8), w2), ((16, 9), w3), ((16, 10), w4), ((16, 7), w5), ((16, 9), w6), ((16, 10), w7)] [((16, 6), some 0), ((16, 7), some 5), ((16, 8), some 2), ((16, 9), some 6), ((16, 10), some 7)] rfl
theorem hA2_if_over (F : Nat → Nat → Int32) (w0 w1 w2 w3 w4 w5 w6 w7 w8 w9 w10 w11 w12 w13 : Nat → Int32) : (zua (zua (zua (zua (zua (zua (zua (zua (zua (zua (zua (zua (zua (zua F 17 w0) 18 w1) 19 w2) 20 w3) 21 w4) 22 w5) 26 w6) 50 w7) 51 w8) 18 w9) 19 w10) 26 w11) 50 w12) 51 w13) = (zua (zua (zua (zua (zua (zua (zua (zua (zua F 17 w0) 18 w9) 19 w10) 20 w3) 21 w4) 22 w5) 26 w11) 50 w12) 51 w13) := zuak_ix F [(17, w0), (18, w1), (19, w2), (20, w3), (21, w4), (22, w5), (26, w6), (50, w7), (51, w8), (18, w9), (19, w10), (26, w11), (50, w12), (51, w13)] [(17, some 0), (18, some 9), (19, some 10), (20, some 3), (21, some 4), (22, some 5), (26, some 11), (50, some 12), (51, some 13)] rfl
theorem hF1_if_over (F : Nat → Nat → Int32) (w0 w1 w2 w3 w4 : Int32) : (zuf (zuf (zuf (zuf (zuf F 16 6 w0) 16 7 w1) 16 8 w2) 16 9 w3) 16 10 w4) = (zuf (zuf (zuf (zuf (zuf F 16 6 w0) 16 7 w1) 16 8 w2) 16 9 w3) 16 10 w4) := zufk_ix F [((16, 6), w0), ((16, 7), w1), ((16, 8), w2), ((16, 9), w3), ((16, 10), w4)] [((16, 6), some 0), ((16, 7), some 1), ((16, 8), some 2), ((16, 9), some 3), ((16, 10), some 4)] rfl
theorem hA0_if_over (F : Nat → Nat → Int32) (w0 w1 w2 w3 w4 w5 w6 w7 w8 : Nat → Int32) : (zua (zua (zua (zua (zua (zua (zua (zua (zua F 17 w0) 18 w1) 19 w2) 20 w3) 21 w4) 22 w5) 26 w6) 50 w7) 51 w8) = (zua (zua (zua (zua (zua (zua (zua (zua (zua F 17 w0) 18 w1) 19 w2) 20 w3) 21 w4) 22 w5) 26 w6) 50 w7) 51 w8) := zuak_ix F [(17, w0), (18, w1), (19, w2), (20, w3), (21, w4), (22, w5), (26, w6), (50, w7), (51, w8)] [(17, some 0), (18, some 1), (19, some 2), (20, some 3), (21, some 4), (22, some 5), (26, some 6), (50, some 7), (51, some 8)] rfl
def O_if_over_0_v0 (ar fi : Nat → Nat → Int32) (m2 : Nat) (m3 : Nat) (m4 : Nat) (m5 : Nat) (t : T_if_over) : zO2 := match t with
  | (t0, t1, t2, t3, t4, t5, t6, t7, t8, t9, t10, t11, t12, t13, t14) => (some (.int (t0)), ((zua (zua (zua (zua (zua (zua (zua (zua (zua ar 17 t1) 18 t2) 19 t3) 20 t4) 21 t5) 22 t6) 26 t7) 50 t8) 51 t9), (zuf (zuf (zuf (zuf (zuf fi 16 6 t10) 16 7 t11) 16 8 t12) 16 9 t13) 16 10 t14), (23, m2, m3, m4, m5)))
def M_if_over_25_0_v0 (X : Nat × (Nat → Int32)) (E : zTE) (ar fi : Nat → Nat → Int32) (m2 : Nat) (m3 : Nat) (m4 : Nat) (m5 : Nat) (x : Int32) (b17 : Nat → Int32) (b20 : Nat → Int32) (b21 : Nat → Int32) (b22 : Nat → Int32) (c16_6 : Int32) (c16_8 : Int32) (o : zO2) (s : U_if_over_25) : Prop := match s with
  | (l2, b18, b19, b26, b50, b51, c16_7, c16_9, c16_10) => zR2 X zFT E zc_118 25 [.ref 0, .int x, .int l2] [] ((zua (zua (zua (zua (zua (zua (zua (zua (zua ar 17 b17) 18 b18) 19 b19) 20 b20) 21 b21) 22 b22) 26 b26) 50 b50) 51 b51), (zuf (zuf (zuf (zuf (zuf fi 16 6 c16_6) 16 7 c16_7) 16 8 c16_8) 16 9 c16_9) 16 10 c16_10), (23, m2, m3, m4, m5)) o
set_option maxRecDepth 1000000 in
theorem t25_if_over_0_v0 {X : Nat × (Nat → Int32)} {ar fi : Nat → Nat → Int32} {m2 m3 m4 m5 : Nat} {x : Int32} {l2 : Int32} {b17 : Nat → Int32} {b18 : Nat → Int32} {b19 : Nat → Int32} {b20 : Nat → Int32} {b21 : Nat → Int32} {b22 : Nat → Int32} {b26 : Nat → Int32} {b50 : Nat → Int32} {b51 : Nat → Int32} {c16_6 : Int32} {c16_7 : Int32} {c16_8 : Int32} {c16_9 : Int32} {c16_10 : Int32} {W_if_isWithin : Int32 → Int32 → Int32 → Int32} {A0_sc_copyFrom : (Nat → Int32) → (Nat → Int32) → (Nat → Int32) → (Nat → Int32) → (Nat → Int32) → (Nat → Int32) → (Nat → Int32) → (Nat → Int32) → (Nat → Int32) → (Nat → Int32) → (Nat → Int32) → (Nat → Int32) → Int32 → Int32 → Int32 → Int32 → Int32 → Nat → Int32} {A1_sc_copyFrom : (Nat → Int32) → (Nat → Int32) → (Nat → Int32) → (Nat → Int32) → (Nat → Int32) → (Nat → Int32) → (Nat → Int32) → (Nat → Int32) → (Nat → Int32) → (Nat → Int32) → (Nat → Int32) → (Nat → Int32) → Int32 → Int32 → Int32 → Int32 → Int32 → Nat → Int32} {A2_sc_copyFrom : (Nat → Int32) → (Nat → Int32) → (Nat → Int32) → (Nat → Int32) → (Nat → Int32) → (Nat → Int32) → (Nat → Int32) → (Nat → Int32) → (Nat → Int32) → (Nat → Int32) → (Nat → Int32) → (Nat → Int32) → Int32 → Int32 → Int32 → Int32 → Int32 → Nat → Int32} {A3_sc_copyFrom : (Nat → Int32) → (Nat → Int32) → (Nat → Int32) → (Nat → Int32) → (Nat → Int32) → (Nat → Int32) → (Nat → Int32) → (Nat → Int32) → (Nat → Int32) → (Nat → Int32) → (Nat → Int32) → (Nat → Int32) → Int32 → Int32 → Int32 → Int32 → Int32 → Nat → Int32} {A4_sc_copyFrom : (Nat → Int32) → (Nat → Int32) → (Nat → Int32) → (Nat → Int32) → (Nat → Int32) → (Nat → Int32) → (Nat → Int32) → (Nat → Int32) → (Nat → Int32) → (Nat → Int32) → (Nat → Int32) → (Nat → Int32) → Int32 → Int32 → Int32 → Int32 → Int32 → Nat → Int32} {A5_sc_copyFrom : (Nat → Int32) → (Nat → Int32) → (Nat → Int32) → (Nat → Int32) → (Nat → Int32) → (Nat → Int32) → (Nat → Int32) → (Nat → Int32) → (Nat → Int32) → (Nat → Int32) → (Nat → Int32) → (Nat → Int32) → Int32 → Int32 → Int32 → Int32 → Int32 → Nat → Int32} {F0_sc_copyFrom : (Nat → Int32) → (Nat → Int32) → (Nat → Int32) → (Nat → Int32) → (Nat → Int32) → (Nat → Int32) → (Nat → Int32) → (Nat → Int32) → (Nat → Int32) → (Nat → Int32) → (Nat → Int32) → (Nat → Int32) → Int32 → Int32 → Int32 → Int32 → Int32 → Int32} {F1_sc_copyFrom : (Nat → Int32) → (Nat → Int32) → (Nat → Int32) → (Nat → Int32) → (Nat → Int32) → (Nat → Int32) → (Nat → Int32) → (Nat → Int32) → (Nat → Int32) → (Nat → Int32) → (Nat → Int32) → (Nat → Int32) → Int32 → Int32 → Int32 → Int32 → Int32 → Int32} {F2_sc_copyFrom : (Nat → Int32) → (Nat → Int32) → (Nat → Int32) → (Nat → Int32) → (Nat → Int32) → (Nat → Int32) → (Nat → Int32) → (Nat → Int32) → (Nat → Int32) → (Nat → Int32) → (Nat → Int32) → (Nat → Int32) → Int32 → Int32 → Int32 → Int32 → Int32 → Int32} {F3_sc_copyFrom : (Nat → Int32) → (Nat → Int32) → (Nat → Int32) → (Nat → Int32) → (Nat → Int32) → (Nat → Int32) → (Nat → Int32) → (Nat → Int32) → (Nat → Int32) → (Nat → Int32) → (Nat → Int32) → (Nat → Int32) → Int32 → Int32 → Int32 → Int32 → Int32 → Int32} {F4_sc_copyFrom : (Nat → Int32) → (Nat → Int32) → (Nat → Int32) → (Nat → Int32) → (Nat → Int32) → (Nat → Int32) → (Nat → Int32) → (Nat → Int32) → (Nat → Int32) → (Nat → Int32) → (Nat → Int32) → (Nat → Int32) → Int32 → Int32 → Int32 → Int32 → Int32 → Int32} {W_sc_placesThatAre : Int32 → (Nat → Int32) → Int32} {Q_fr_burnFor : Int32 → (Nat → Int32) → (Nat → Int32) → (Nat → Int32) → (Nat → Int32) → (Nat → Int32) → (Nat → Int32) → (Nat → Int32) → (Nat → Int32) → (Nat → Int32) → (Nat → Int32) → (Nat → Int32) → (Nat → Int32) → (Nat → Int32) → (Nat → Int32) → (Nat → Int32) → Int32 → Int32 → Int32 → Int32 → Int32 → Int32 → Int32 → Option ((Nat → Int32) × (Nat → Int32) × (Nat → Int32) × (Nat → Int32) × (Nat → Int32) × Int32 × Int32 × Int32)} : zseg X zFT (zEx 137 (P_if_isWithin W_if_isWithin) (zEx 67 (P_sc_copyFrom A0_sc_copyFrom A1_sc_copyFrom A2_sc_copyFrom A3_sc_copyFrom A4_sc_copyFrom A5_sc_copyFrom F0_sc_copyFrom F1_sc_copyFrom F2_sc_copyFrom F3_sc_copyFrom F4_sc_copyFrom) (zEx 76 (P_sc_placesThatAre W_sc_placesThatAre) (zEx 20 (P_fr_burnFor Q_fr_burnFor) zE0)))) zc_118 (fun p => Nat.beq p 25) 400 25 [.ref 0, .int x, .int l2] [] ((zua (zua (zua (zua (zua (zua (zua (zua (zua ar 17 b17) 18 b18) 19 b19) 20 b20) 21 b21) 22 b22) 26 b26) 50 b50) 51 b51), (zuf (zuf (zuf (zuf (zuf fi 16 6 c16_6) 16 7 c16_7) 16 8 c16_8) 16 9 c16_9) 16 10 c16_10), (23, m2, m3, m4, m5)) = (
  bif decide (x < l2) then
   some (.inr (some (.int (-2)), ((zua (zua (zua (zua (zua (zua (zua (zua (zua ar 17 b17) 18 b18) 19 b19) 20 b20) 21 b21) 22 b22) 26 b26) 50 b50) 51 b51), (zuf (zuf (zuf (zuf (zuf fi 16 6 c16_6) 16 7 c16_7) 16 8 c16_8) 16 9 c16_9) 16 10 c16_10), (23, m2, m3, m4, m5))))
  else
   zl (W_sc_placesThatAre 1 b18) (fun v13 =>
   bif !decide (v13 = 0) then
    zl (Q_fr_burnFor 1 b17 b18 b19 b20 b21 b22 (ar 24) (ar 25) b26 (ar 27) (ar 28) (ar 29) (ar 30) b50 b51 c16_6 c16_7 c16_8 c16_9 c16_10 (fi 23 8) (fi 23 9)) (fun v14 => zg v14.isSome (
    some (.inl (25, [.ref 0, .int x, .int (l2 + 1)], [], ((zua (zua (zua (zua (zua (zua (zua (zua (zua (zua (zua (zua (zua (zua ar 17 b17) 18 b18) 19 b19) 20 b20) 21 b21) 22 b22) 26 b26) 50 b50) 51 b51) 18 (((zgt v14).1))) 19 (((zgt v14).2.1))) 26 (((zgt v14).2.2.1))) 50 (((zgt v14).2.2.2.1))) 51 (((zgt v14).2.2.2.2.1))), (zuf (zuf (zuf (zuf (zuf (zuf (zuf (zuf fi 16 6 c16_6) 16 7 c16_7) 16 8 c16_8) 16 9 c16_9) 16 10 c16_10) 16 7 (((zgt v14).2.2.2.2.2.1))) 16 9 (((zgt v14).2.2.2.2.2.2.1))) 16 10 (((zgt v14).2.2.2.2.2.2.2))), (23, m2, m3, m4, m5))))))
   else
    some (.inr (some (.int l2), ((zua (zua (zua (zua (zua (zua (zua (zua (zua ar 17 b17) 18 b18) 19 b19) 20 b20) 21 b21) 22 b22) 26 b26) 50 b50) 51 b51), (zuf (zuf (zuf (zuf (zuf fi 16 6 c16_6) 16 7 c16_7) 16 8 c16_8) 16 9 c16_9) 16 10 c16_10), (23, m2, m3, m4, m5))))) : Option ((Nat × List Value × List Value × zH2) ⊕ zO2)) := by with_unfolding_all rfl
set_option maxRecDepth 20000 in
theorem k_if_over_25_0_v0 {X : Nat × (Nat → Int32)} {ar fi : Nat → Nat → Int32} {m2 m3 m4 m5 : Nat} {x : Int32} {b17 : Nat → Int32} {b20 : Nat → Int32} {b21 : Nat → Int32} {b22 : Nat → Int32} {c16_6 : Int32} {c16_8 : Int32} {o : zO2} : ∀ (s : U_if_over_25) (q : U_if_over_25 ⊕ T_if_over), f_if_over_25 x (ar 24) (ar 25) (ar 27) (ar 28) (ar 29) (ar 30) (fi 23 8) (fi 23 9) b17 b20 b21 b22 c16_6 c16_8 s = some q → zq (M_if_over_25_0_v0 X (zEx 137 S_if_isWithin (zEx 67 S_sc_copyFrom (zEx 76 S_sc_placesThatAre (zEx 20 S_fr_burnFor zE0)))) ar fi m2 m3 m4 m5 x b17 b20 b21 b22 c16_6 c16_8 o) (fun t => O_if_over_0_v0 ar fi m2 m3 m4 m5 t = o) q → M_if_over_25_0_v0 X (zEx 137 S_if_isWithin (zEx 67 S_sc_copyFrom (zEx 76 S_sc_placesThatAre (zEx 20 S_fr_burnFor zE0)))) ar fi m2 m3 m4 m5 x b17 b20 b21 b22 c16_6 c16_8 o s := by
  intro s q h hq
  obtain ⟨l2, b18, b19, b26, b50, b51, c16_7, c16_9, c16_10⟩ := s
  have h : b_if_over_25 x (ar 24) (ar 25) (ar 27) (ar 28) (ar 29) (ar 30) (fi 23 8) (fi 23 9) b17 b20 b21 b22 c16_6 c16_8 l2 b18 b19 b26 b50 b51 c16_7 c16_9 c16_10 = some q := h
  unfold b_if_over_25 at h
  show zR2 X zFT (zEx 137 S_if_isWithin (zEx 67 S_sc_copyFrom (zEx 76 S_sc_placesThatAre (zEx 20 S_fr_burnFor zE0)))) zc_118 25 [.ref 0, .int x, .int l2] [] ((zua (zua (zua (zua (zua (zua (zua (zua (zua ar 17 b17) 18 b18) 19 b19) 20 b20) 21 b21) 22 b22) 26 b26) 50 b50) 51 b51), (zuf (zuf (zuf (zuf (zuf fi 16 6 c16_6) 16 7 c16_7) 16 8 c16_8) 16 9 c16_9) 16 10 c16_10), (23, m2, m3, m4, m5)) o
  refine zT_seg t25_if_over_0_v0 ?_
  obtain ⟨TT, hTT⟩ : ∃ T, T = zT X zFT (zEx 137 S_if_isWithin (zEx 67 S_sc_copyFrom (zEx 76 S_sc_placesThatAre (zEx 20 S_fr_burnFor zE0)))) zc_118 o := ⟨_, rfl⟩
  rw [← hTT]
  refine zb_el h (fun hb h => zU_t hTT hb ?_) (fun hb h => zU_f hTT hb ?_)
  · rw [hTT]
    have hz := zsi h hq
    refine (zO_mk ?_ ?_).trans hz
    · first | with_reducible rfl | exact hA0_if_over _ _ _ _ _ _ _ _ _ _
    · first | with_reducible rfl | exact hF1_if_over _ _ _ _ _ _
  · refine zl_el h (fun h => zU_l hTT ?_)
    refine zb_el h (fun hb h => zU_t hTT hb ?_) (fun hb h => zU_f hTT hb ?_)
    · refine zbd_el h (fun v14 hv h => zU_c hTT hv ?_)
      rw [hTT]
      have hz := zsi h hq
      refine zR2_hp ?_ ?_ hz
      · first | with_reducible rfl | exact hA2_if_over _ _ _ _ _ _ _ _ _ _ _ _ _ _ _
      · first | with_reducible rfl | exact hF3_if_over _ _ _ _ _ _ _ _ _
    · rw [hTT]
      have hz := zsi h hq
      refine (zO_mk ?_ ?_).trans hz
      · first | with_reducible rfl | exact hA0_if_over _ _ _ _ _ _ _ _ _ _
      · first | with_reducible rfl | exact hF1_if_over _ _ _ _ _ _
set_option maxRecDepth 1000000 in
theorem t_if_over_0_v0 {X : Nat × (Nat → Int32)} {ar fi : Nat → Nat → Int32} {m2 m3 m4 m5 : Nat} {x : Int32} {W_if_isWithin : Int32 → Int32 → Int32 → Int32} {A0_sc_copyFrom : (Nat → Int32) → (Nat → Int32) → (Nat → Int32) → (Nat → Int32) → (Nat → Int32) → (Nat → Int32) → (Nat → Int32) → (Nat → Int32) → (Nat → Int32) → (Nat → Int32) → (Nat → Int32) → (Nat → Int32) → Int32 → Int32 → Int32 → Int32 → Int32 → Nat → Int32} {A1_sc_copyFrom : (Nat → Int32) → (Nat → Int32) → (Nat → Int32) → (Nat → Int32) → (Nat → Int32) → (Nat → Int32) → (Nat → Int32) → (Nat → Int32) → (Nat → Int32) → (Nat → Int32) → (Nat → Int32) → (Nat → Int32) → Int32 → Int32 → Int32 → Int32 → Int32 → Nat → Int32} {A2_sc_copyFrom : (Nat → Int32) → (Nat → Int32) → (Nat → Int32) → (Nat → Int32) → (Nat → Int32) → (Nat → Int32) → (Nat → Int32) → (Nat → Int32) → (Nat → Int32) → (Nat → Int32) → (Nat → Int32) → (Nat → Int32) → Int32 → Int32 → Int32 → Int32 → Int32 → Nat → Int32} {A3_sc_copyFrom : (Nat → Int32) → (Nat → Int32) → (Nat → Int32) → (Nat → Int32) → (Nat → Int32) → (Nat → Int32) → (Nat → Int32) → (Nat → Int32) → (Nat → Int32) → (Nat → Int32) → (Nat → Int32) → (Nat → Int32) → Int32 → Int32 → Int32 → Int32 → Int32 → Nat → Int32} {A4_sc_copyFrom : (Nat → Int32) → (Nat → Int32) → (Nat → Int32) → (Nat → Int32) → (Nat → Int32) → (Nat → Int32) → (Nat → Int32) → (Nat → Int32) → (Nat → Int32) → (Nat → Int32) → (Nat → Int32) → (Nat → Int32) → Int32 → Int32 → Int32 → Int32 → Int32 → Nat → Int32} {A5_sc_copyFrom : (Nat → Int32) → (Nat → Int32) → (Nat → Int32) → (Nat → Int32) → (Nat → Int32) → (Nat → Int32) → (Nat → Int32) → (Nat → Int32) → (Nat → Int32) → (Nat → Int32) → (Nat → Int32) → (Nat → Int32) → Int32 → Int32 → Int32 → Int32 → Int32 → Nat → Int32} {F0_sc_copyFrom : (Nat → Int32) → (Nat → Int32) → (Nat → Int32) → (Nat → Int32) → (Nat → Int32) → (Nat → Int32) → (Nat → Int32) → (Nat → Int32) → (Nat → Int32) → (Nat → Int32) → (Nat → Int32) → (Nat → Int32) → Int32 → Int32 → Int32 → Int32 → Int32 → Int32} {F1_sc_copyFrom : (Nat → Int32) → (Nat → Int32) → (Nat → Int32) → (Nat → Int32) → (Nat → Int32) → (Nat → Int32) → (Nat → Int32) → (Nat → Int32) → (Nat → Int32) → (Nat → Int32) → (Nat → Int32) → (Nat → Int32) → Int32 → Int32 → Int32 → Int32 → Int32 → Int32} {F2_sc_copyFrom : (Nat → Int32) → (Nat → Int32) → (Nat → Int32) → (Nat → Int32) → (Nat → Int32) → (Nat → Int32) → (Nat → Int32) → (Nat → Int32) → (Nat → Int32) → (Nat → Int32) → (Nat → Int32) → (Nat → Int32) → Int32 → Int32 → Int32 → Int32 → Int32 → Int32} {F3_sc_copyFrom : (Nat → Int32) → (Nat → Int32) → (Nat → Int32) → (Nat → Int32) → (Nat → Int32) → (Nat → Int32) → (Nat → Int32) → (Nat → Int32) → (Nat → Int32) → (Nat → Int32) → (Nat → Int32) → (Nat → Int32) → Int32 → Int32 → Int32 → Int32 → Int32 → Int32} {F4_sc_copyFrom : (Nat → Int32) → (Nat → Int32) → (Nat → Int32) → (Nat → Int32) → (Nat → Int32) → (Nat → Int32) → (Nat → Int32) → (Nat → Int32) → (Nat → Int32) → (Nat → Int32) → (Nat → Int32) → (Nat → Int32) → Int32 → Int32 → Int32 → Int32 → Int32 → Int32} {W_sc_placesThatAre : Int32 → (Nat → Int32) → Int32} {Q_fr_burnFor : Int32 → (Nat → Int32) → (Nat → Int32) → (Nat → Int32) → (Nat → Int32) → (Nat → Int32) → (Nat → Int32) → (Nat → Int32) → (Nat → Int32) → (Nat → Int32) → (Nat → Int32) → (Nat → Int32) → (Nat → Int32) → (Nat → Int32) → (Nat → Int32) → (Nat → Int32) → Int32 → Int32 → Int32 → Int32 → Int32 → Int32 → Int32 → Option ((Nat → Int32) × (Nat → Int32) × (Nat → Int32) × (Nat → Int32) × (Nat → Int32) × Int32 × Int32 × Int32)} : zseg X zFT (zEx 137 (P_if_isWithin W_if_isWithin) (zEx 67 (P_sc_copyFrom A0_sc_copyFrom A1_sc_copyFrom A2_sc_copyFrom A3_sc_copyFrom A4_sc_copyFrom A5_sc_copyFrom F0_sc_copyFrom F1_sc_copyFrom F2_sc_copyFrom F3_sc_copyFrom F4_sc_copyFrom) (zEx 76 (P_sc_placesThatAre W_sc_placesThatAre) (zEx 20 (P_fr_burnFor Q_fr_burnFor) zE0)))) zc_118 (fun p => Nat.beq p 25) 400 0 [.ref 0, .int x] [] (ar, fi, (23, m2, m3, m4, m5)) = (
  zl (W_if_isWithin x 1 100) (fun v1 =>
  bif !decide (v1 = 0) then
   zl (A0_sc_copyFrom (ar 3) (ar 17) (ar 4) (ar 18) (ar 5) (ar 19) (ar 6) (ar 20) (ar 7) (ar 21) (ar 8) (ar 22) (fi 2 6) (fi 2 7) (fi 2 8) (fi 2 9) (fi 2 10)) (fun v2 =>
   zl (A1_sc_copyFrom (ar 3) (ar 17) (ar 4) (ar 18) (ar 5) (ar 19) (ar 6) (ar 20) (ar 7) (ar 21) (ar 8) (ar 22) (fi 2 6) (fi 2 7) (fi 2 8) (fi 2 9) (fi 2 10)) (fun v3 =>
   zl (A2_sc_copyFrom (ar 3) (ar 17) (ar 4) (ar 18) (ar 5) (ar 19) (ar 6) (ar 20) (ar 7) (ar 21) (ar 8) (ar 22) (fi 2 6) (fi 2 7) (fi 2 8) (fi 2 9) (fi 2 10)) (fun v4 =>
   zl (A3_sc_copyFrom (ar 3) (ar 17) (ar 4) (ar 18) (ar 5) (ar 19) (ar 6) (ar 20) (ar 7) (ar 21) (ar 8) (ar 22) (fi 2 6) (fi 2 7) (fi 2 8) (fi 2 9) (fi 2 10)) (fun v5 =>
   zl (A4_sc_copyFrom (ar 3) (ar 17) (ar 4) (ar 18) (ar 5) (ar 19) (ar 6) (ar 20) (ar 7) (ar 21) (ar 8) (ar 22) (fi 2 6) (fi 2 7) (fi 2 8) (fi 2 9) (fi 2 10)) (fun v6 =>
   zl (A5_sc_copyFrom (ar 3) (ar 17) (ar 4) (ar 18) (ar 5) (ar 19) (ar 6) (ar 20) (ar 7) (ar 21) (ar 8) (ar 22) (fi 2 6) (fi 2 7) (fi 2 8) (fi 2 9) (fi 2 10)) (fun v7 =>
   zl (F0_sc_copyFrom (ar 3) (ar 17) (ar 4) (ar 18) (ar 5) (ar 19) (ar 6) (ar 20) (ar 7) (ar 21) (ar 8) (ar 22) (fi 2 6) (fi 2 7) (fi 2 8) (fi 2 9) (fi 2 10)) (fun v8 =>
   zl (F1_sc_copyFrom (ar 3) (ar 17) (ar 4) (ar 18) (ar 5) (ar 19) (ar 6) (ar 20) (ar 7) (ar 21) (ar 8) (ar 22) (fi 2 6) (fi 2 7) (fi 2 8) (fi 2 9) (fi 2 10)) (fun v9 =>
   zl (F2_sc_copyFrom (ar 3) (ar 17) (ar 4) (ar 18) (ar 5) (ar 19) (ar 6) (ar 20) (ar 7) (ar 21) (ar 8) (ar 22) (fi 2 6) (fi 2 7) (fi 2 8) (fi 2 9) (fi 2 10)) (fun v10 =>
   zl (F3_sc_copyFrom (ar 3) (ar 17) (ar 4) (ar 18) (ar 5) (ar 19) (ar 6) (ar 20) (ar 7) (ar 21) (ar 8) (ar 22) (fi 2 6) (fi 2 7) (fi 2 8) (fi 2 9) (fi 2 10)) (fun v11 =>
   zl (F4_sc_copyFrom (ar 3) (ar 17) (ar 4) (ar 18) (ar 5) (ar 19) (ar 6) (ar 20) (ar 7) (ar 21) (ar 8) (ar 22) (fi 2 6) (fi 2 7) (fi 2 8) (fi 2 9) (fi 2 10)) (fun v12 =>
   some (.inl (25, [.ref 0, .int x, .int 0], [], ((zua (zua (zua (zua (zua (zua ar 17 v2) 18 v3) 19 v4) 20 v5) 21 v6) 22 v7), (zuf (zuf (zuf (zuf (zuf fi 16 6 v8) 16 7 v9) 16 8 v10) 16 9 v11) 16 10 v12), (23, m2, m3, m4, m5)))))))))))))))
  else
   some (.inr (some (.int (-1)), (ar, fi, (23, m2, m3, m4, m5))))) : Option ((Nat × List Value × List Value × zH2) ⊕ zO2)) := by with_unfolding_all rfl
set_option maxRecDepth 20000 in
theorem e_if_over_0_v0 {X : Nat × (Nat → Int32)} {ar fi : Nat → Nat → Int32} {m2 m3 m4 m5 : Nat} {x : Int32} {o : zO2} : ∀ (q : T_if_over), q_if_over x (ar 3) (ar 4) (ar 5) (ar 6) (ar 7) (ar 8) (ar 17) (ar 18) (ar 19) (ar 20) (ar 21) (ar 22) (ar 24) (ar 25) (ar 26) (ar 27) (ar 28) (ar 29) (ar 30) (ar 50) (ar 51) (fi 2 6) (fi 2 7) (fi 2 8) (fi 2 9) (fi 2 10) (fi 16 6) (fi 16 7) (fi 16 8) (fi 16 9) (fi 16 10) (fi 23 8) (fi 23 9) = some q → (fun t => O_if_over_0_v0 ar fi m2 m3 m4 m5 t = o) q → zR2 X zFT (zEx 137 S_if_isWithin (zEx 67 S_sc_copyFrom (zEx 76 S_sc_placesThatAre (zEx 20 S_fr_burnFor zE0)))) zc_118 0 [.ref 0, .int x] [] (ar, fi, (23, m2, m3, m4, m5)) o := by
  intro q h hq
  unfold q_if_over at h
  refine zT_seg t_if_over_0_v0 ?_
  obtain ⟨TT, hTT⟩ : ∃ T, T = zT X zFT (zEx 137 S_if_isWithin (zEx 67 S_sc_copyFrom (zEx 76 S_sc_placesThatAre (zEx 20 S_fr_burnFor zE0)))) zc_118 o := ⟨_, rfl⟩
  rw [← hTT]
  refine zl_el h (fun h => zU_l hTT ?_)
  refine zb_el h (fun hb h => zU_t hTT hb ?_) (fun hb h => zU_f hTT hb ?_)
  · refine zl_el h (fun h => zU_l hTT ?_)
    refine zl_el h (fun h => zU_l hTT ?_)
    refine zl_el h (fun h => zU_l hTT ?_)
    refine zl_el h (fun h => zU_l hTT ?_)
    refine zl_el h (fun h => zU_l hTT ?_)
    refine zl_el h (fun h => zU_l hTT ?_)
    refine zl_el h (fun h => zU_l hTT ?_)
    refine zl_el h (fun h => zU_l hTT ?_)
    refine zl_el h (fun h => zU_l hTT ?_)
    refine zl_el h (fun h => zU_l hTT ?_)
    refine zl_el h (fun h => zU_l hTT ?_)
    rw [hTT]
    refine zR2_hp ?_ ?_ (zlp_K k_if_over_25_0_v0 h hq)
    · first | with_reducible rfl | exact hA4_if_over _ _ _ _ _ _ _
    · first | with_reducible rfl | exact hF1_if_over _ _ _ _ _ _
  · rw [hTT]
    have hz := zsi (P := (fun t => O_if_over_0_v0 ar fi m2 m3 m4 m5 t = o)) h hq
    refine (zO_mk ?_ ?_).trans hz
    · first | with_reducible rfl | exact hA5_if_over _
    · first | with_reducible rfl | exact hF6_if_over _
def O_if_over_0_v1 (ar fi : Nat → Nat → Int32) (m2 : Nat) (m3 : Nat) (m4 : Nat) (m5 : Nat) (t : T_if_over) : zO2 := match t with
  | (t0, t1, t2, t3, t4, t5, t6, t7, t8, t9, t10, t11, t12, t13, t14) => (some (.int (t0)), ((zua (zua (zua (zua (zua (zua (zua (zua (zua ar 17 t1) 18 t2) 19 t3) 20 t4) 21 t5) 22 t6) 34 t7) 50 t8) 51 t9), (zuf (zuf (zuf (zuf (zuf fi 16 6 t10) 16 7 t11) 16 8 t12) 16 9 t13) 16 10 t14), (31, m2, m3, m4, m5)))
def M_if_over_25_0_v1 (X : Nat × (Nat → Int32)) (E : zTE) (ar fi : Nat → Nat → Int32) (m2 : Nat) (m3 : Nat) (m4 : Nat) (m5 : Nat) (x : Int32) (b17 : Nat → Int32) (b20 : Nat → Int32) (b21 : Nat → Int32) (b22 : Nat → Int32) (c16_6 : Int32) (c16_8 : Int32) (o : zO2) (s : U_if_over_25) : Prop := match s with
  | (l2, b18, b19, b34, b50, b51, c16_7, c16_9, c16_10) => zR2 X zFT E zc_118 25 [.ref 0, .int x, .int l2] [] ((zua (zua (zua (zua (zua (zua (zua (zua (zua ar 17 b17) 18 b18) 19 b19) 20 b20) 21 b21) 22 b22) 34 b34) 50 b50) 51 b51), (zuf (zuf (zuf (zuf (zuf fi 16 6 c16_6) 16 7 c16_7) 16 8 c16_8) 16 9 c16_9) 16 10 c16_10), (31, m2, m3, m4, m5)) o
set_option maxRecDepth 1000000 in
theorem t25_if_over_0_v1 {X : Nat × (Nat → Int32)} {ar fi : Nat → Nat → Int32} {m2 m3 m4 m5 : Nat} {x : Int32} {l2 : Int32} {b17 : Nat → Int32} {b18 : Nat → Int32} {b19 : Nat → Int32} {b20 : Nat → Int32} {b21 : Nat → Int32} {b22 : Nat → Int32} {b34 : Nat → Int32} {b50 : Nat → Int32} {b51 : Nat → Int32} {c16_6 : Int32} {c16_7 : Int32} {c16_8 : Int32} {c16_9 : Int32} {c16_10 : Int32} {W_if_isWithin : Int32 → Int32 → Int32 → Int32} {A0_sc_copyFrom : (Nat → Int32) → (Nat → Int32) → (Nat → Int32) → (Nat → Int32) → (Nat → Int32) → (Nat → Int32) → (Nat → Int32) → (Nat → Int32) → (Nat → Int32) → (Nat → Int32) → (Nat → Int32) → (Nat → Int32) → Int32 → Int32 → Int32 → Int32 → Int32 → Nat → Int32} {A1_sc_copyFrom : (Nat → Int32) → (Nat → Int32) → (Nat → Int32) → (Nat → Int32) → (Nat → Int32) → (Nat → Int32) → (Nat → Int32) → (Nat → Int32) → (Nat → Int32) → (Nat → Int32) → (Nat → Int32) → (Nat → Int32) → Int32 → Int32 → Int32 → Int32 → Int32 → Nat → Int32} {A2_sc_copyFrom : (Nat → Int32) → (Nat → Int32) → (Nat → Int32) → (Nat → Int32) → (Nat → Int32) → (Nat → Int32) → (Nat → Int32) → (Nat → Int32) → (Nat → Int32) → (Nat → Int32) → (Nat → Int32) → (Nat → Int32) → Int32 → Int32 → Int32 → Int32 → Int32 → Nat → Int32} {A3_sc_copyFrom : (Nat → Int32) → (Nat → Int32) → (Nat → Int32) → (Nat → Int32) → (Nat → Int32) → (Nat → Int32) → (Nat → Int32) → (Nat → Int32) → (Nat → Int32) → (Nat → Int32) → (Nat → Int32) → (Nat → Int32) → Int32 → Int32 → Int32 → Int32 → Int32 → Nat → Int32} {A4_sc_copyFrom : (Nat → Int32) → (Nat → Int32) → (Nat → Int32) → (Nat → Int32) → (Nat → Int32) → (Nat → Int32) → (Nat → Int32) → (Nat → Int32) → (Nat → Int32) → (Nat → Int32) → (Nat → Int32) → (Nat → Int32) → Int32 → Int32 → Int32 → Int32 → Int32 → Nat → Int32} {A5_sc_copyFrom : (Nat → Int32) → (Nat → Int32) → (Nat → Int32) → (Nat → Int32) → (Nat → Int32) → (Nat → Int32) → (Nat → Int32) → (Nat → Int32) → (Nat → Int32) → (Nat → Int32) → (Nat → Int32) → (Nat → Int32) → Int32 → Int32 → Int32 → Int32 → Int32 → Nat → Int32} {F0_sc_copyFrom : (Nat → Int32) → (Nat → Int32) → (Nat → Int32) → (Nat → Int32) → (Nat → Int32) → (Nat → Int32) → (Nat → Int32) → (Nat → Int32) → (Nat → Int32) → (Nat → Int32) → (Nat → Int32) → (Nat → Int32) → Int32 → Int32 → Int32 → Int32 → Int32 → Int32} {F1_sc_copyFrom : (Nat → Int32) → (Nat → Int32) → (Nat → Int32) → (Nat → Int32) → (Nat → Int32) → (Nat → Int32) → (Nat → Int32) → (Nat → Int32) → (Nat → Int32) → (Nat → Int32) → (Nat → Int32) → (Nat → Int32) → Int32 → Int32 → Int32 → Int32 → Int32 → Int32} {F2_sc_copyFrom : (Nat → Int32) → (Nat → Int32) → (Nat → Int32) → (Nat → Int32) → (Nat → Int32) → (Nat → Int32) → (Nat → Int32) → (Nat → Int32) → (Nat → Int32) → (Nat → Int32) → (Nat → Int32) → (Nat → Int32) → Int32 → Int32 → Int32 → Int32 → Int32 → Int32} {F3_sc_copyFrom : (Nat → Int32) → (Nat → Int32) → (Nat → Int32) → (Nat → Int32) → (Nat → Int32) → (Nat → Int32) → (Nat → Int32) → (Nat → Int32) → (Nat → Int32) → (Nat → Int32) → (Nat → Int32) → (Nat → Int32) → Int32 → Int32 → Int32 → Int32 → Int32 → Int32} {F4_sc_copyFrom : (Nat → Int32) → (Nat → Int32) → (Nat → Int32) → (Nat → Int32) → (Nat → Int32) → (Nat → Int32) → (Nat → Int32) → (Nat → Int32) → (Nat → Int32) → (Nat → Int32) → (Nat → Int32) → (Nat → Int32) → Int32 → Int32 → Int32 → Int32 → Int32 → Int32} {W_sc_placesThatAre : Int32 → (Nat → Int32) → Int32} {Q_fr_burnFor : Int32 → (Nat → Int32) → (Nat → Int32) → (Nat → Int32) → (Nat → Int32) → (Nat → Int32) → (Nat → Int32) → (Nat → Int32) → (Nat → Int32) → (Nat → Int32) → (Nat → Int32) → (Nat → Int32) → (Nat → Int32) → (Nat → Int32) → (Nat → Int32) → (Nat → Int32) → Int32 → Int32 → Int32 → Int32 → Int32 → Int32 → Int32 → Option ((Nat → Int32) × (Nat → Int32) × (Nat → Int32) × (Nat → Int32) × (Nat → Int32) × Int32 × Int32 × Int32)} : zseg X zFT (zEx 137 (P_if_isWithin W_if_isWithin) (zEx 67 (P_sc_copyFrom A0_sc_copyFrom A1_sc_copyFrom A2_sc_copyFrom A3_sc_copyFrom A4_sc_copyFrom A5_sc_copyFrom F0_sc_copyFrom F1_sc_copyFrom F2_sc_copyFrom F3_sc_copyFrom F4_sc_copyFrom) (zEx 76 (P_sc_placesThatAre W_sc_placesThatAre) (zEx 20 (P_fr_burnFor Q_fr_burnFor) zE0)))) zc_118 (fun p => Nat.beq p 25) 400 25 [.ref 0, .int x, .int l2] [] ((zua (zua (zua (zua (zua (zua (zua (zua (zua ar 17 b17) 18 b18) 19 b19) 20 b20) 21 b21) 22 b22) 34 b34) 50 b50) 51 b51), (zuf (zuf (zuf (zuf (zuf fi 16 6 c16_6) 16 7 c16_7) 16 8 c16_8) 16 9 c16_9) 16 10 c16_10), (31, m2, m3, m4, m5)) = (
  bif decide (x < l2) then
   some (.inr (some (.int (-2)), ((zua (zua (zua (zua (zua (zua (zua (zua (zua ar 17 b17) 18 b18) 19 b19) 20 b20) 21 b21) 22 b22) 34 b34) 50 b50) 51 b51), (zuf (zuf (zuf (zuf (zuf fi 16 6 c16_6) 16 7 c16_7) 16 8 c16_8) 16 9 c16_9) 16 10 c16_10), (31, m2, m3, m4, m5))))
  else
   zl (W_sc_placesThatAre 1 b18) (fun v13 =>
   bif !decide (v13 = 0) then
    zl (Q_fr_burnFor 1 b17 b18 b19 b20 b21 b22 (ar 32) (ar 33) b34 (ar 35) (ar 36) (ar 37) (ar 38) b50 b51 c16_6 c16_7 c16_8 c16_9 c16_10 (fi 31 8) (fi 31 9)) (fun v14 => zg v14.isSome (
    some (.inl (25, [.ref 0, .int x, .int (l2 + 1)], [], ((zua (zua (zua (zua (zua (zua (zua (zua (zua (zua (zua (zua (zua (zua ar 17 b17) 18 b18) 19 b19) 20 b20) 21 b21) 22 b22) 34 b34) 50 b50) 51 b51) 18 (((zgt v14).1))) 19 (((zgt v14).2.1))) 34 (((zgt v14).2.2.1))) 50 (((zgt v14).2.2.2.1))) 51 (((zgt v14).2.2.2.2.1))), (zuf (zuf (zuf (zuf (zuf (zuf (zuf (zuf fi 16 6 c16_6) 16 7 c16_7) 16 8 c16_8) 16 9 c16_9) 16 10 c16_10) 16 7 (((zgt v14).2.2.2.2.2.1))) 16 9 (((zgt v14).2.2.2.2.2.2.1))) 16 10 (((zgt v14).2.2.2.2.2.2.2))), (31, m2, m3, m4, m5))))))
   else
    some (.inr (some (.int l2), ((zua (zua (zua (zua (zua (zua (zua (zua (zua ar 17 b17) 18 b18) 19 b19) 20 b20) 21 b21) 22 b22) 34 b34) 50 b50) 51 b51), (zuf (zuf (zuf (zuf (zuf fi 16 6 c16_6) 16 7 c16_7) 16 8 c16_8) 16 9 c16_9) 16 10 c16_10), (31, m2, m3, m4, m5))))) : Option ((Nat × List Value × List Value × zH2) ⊕ zO2)) := by with_unfolding_all rfl
set_option maxRecDepth 20000 in
theorem k_if_over_25_0_v1 {X : Nat × (Nat → Int32)} {ar fi : Nat → Nat → Int32} {m2 m3 m4 m5 : Nat} {x : Int32} {b17 : Nat → Int32} {b20 : Nat → Int32} {b21 : Nat → Int32} {b22 : Nat → Int32} {c16_6 : Int32} {c16_8 : Int32} {o : zO2} : ∀ (s : U_if_over_25) (q : U_if_over_25 ⊕ T_if_over), f_if_over_25 x (ar 32) (ar 33) (ar 35) (ar 36) (ar 37) (ar 38) (fi 31 8) (fi 31 9) b17 b20 b21 b22 c16_6 c16_8 s = some q → zq (M_if_over_25_0_v1 X (zEx 137 S_if_isWithin (zEx 67 S_sc_copyFrom (zEx 76 S_sc_placesThatAre (zEx 20 S_fr_burnFor zE0)))) ar fi m2 m3 m4 m5 x b17 b20 b21 b22 c16_6 c16_8 o) (fun t => O_if_over_0_v1 ar fi m2 m3 m4 m5 t = o) q → M_if_over_25_0_v1 X (zEx 137 S_if_isWithin (zEx 67 S_sc_copyFrom (zEx 76 S_sc_placesThatAre (zEx 20 S_fr_burnFor zE0)))) ar fi m2 m3 m4 m5 x b17 b20 b21 b22 c16_6 c16_8 o s := by
  intro s q h hq
  obtain ⟨l2, b18, b19, b34, b50, b51, c16_7, c16_9, c16_10⟩ := s
  have h : b_if_over_25 x (ar 32) (ar 33) (ar 35) (ar 36) (ar 37) (ar 38) (fi 31 8) (fi 31 9) b17 b20 b21 b22 c16_6 c16_8 l2 b18 b19 b34 b50 b51 c16_7 c16_9 c16_10 = some q := h
  unfold b_if_over_25 at h
  show zR2 X zFT (zEx 137 S_if_isWithin (zEx 67 S_sc_copyFrom (zEx 76 S_sc_placesThatAre (zEx 20 S_fr_burnFor zE0)))) zc_118 25 [.ref 0, .int x, .int l2] [] ((zua (zua (zua (zua (zua (zua (zua (zua (zua ar 17 b17) 18 b18) 19 b19) 20 b20) 21 b21) 22 b22) 34 b34) 50 b50) 51 b51), (zuf (zuf (zuf (zuf (zuf fi 16 6 c16_6) 16 7 c16_7) 16 8 c16_8) 16 9 c16_9) 16 10 c16_10), (31, m2, m3, m4, m5)) o
  refine zT_seg t25_if_over_0_v1 ?_
  obtain ⟨TT, hTT⟩ : ∃ T, T = zT X zFT (zEx 137 S_if_isWithin (zEx 67 S_sc_copyFrom (zEx 76 S_sc_placesThatAre (zEx 20 S_fr_burnFor zE0)))) zc_118 o := ⟨_, rfl⟩
  rw [← hTT]
  refine zb_el h (fun hb h => zU_t hTT hb ?_) (fun hb h => zU_f hTT hb ?_)
  · rw [hTT]
    have hz := zsi h hq
    refine (zO_mk ?_ ?_).trans hz
    · first | with_reducible rfl | exact hA7_if_over _ _ _ _ _ _ _ _ _ _
    · first | with_reducible rfl | exact hF1_if_over _ _ _ _ _ _
  · refine zl_el h (fun h => zU_l hTT ?_)
    refine zb_el h (fun hb h => zU_t hTT hb ?_) (fun hb h => zU_f hTT hb ?_)
    · refine zbd_el h (fun v14 hv h => zU_c hTT hv ?_)
      rw [hTT]
      have hz := zsi h hq
      refine zR2_hp ?_ ?_ hz
      · first | with_reducible rfl | exact hA8_if_over _ _ _ _ _ _ _ _ _ _ _ _ _ _ _
      · first | with_reducible rfl | exact hF3_if_over _ _ _ _ _ _ _ _ _
    · rw [hTT]
      have hz := zsi h hq
      refine (zO_mk ?_ ?_).trans hz
      · first | with_reducible rfl | exact hA7_if_over _ _ _ _ _ _ _ _ _ _
      · first | with_reducible rfl | exact hF1_if_over _ _ _ _ _ _
set_option maxRecDepth 1000000 in
theorem t_if_over_0_v1 {X : Nat × (Nat → Int32)} {ar fi : Nat → Nat → Int32} {m2 m3 m4 m5 : Nat} {x : Int32} {W_if_isWithin : Int32 → Int32 → Int32 → Int32} {A0_sc_copyFrom : (Nat → Int32) → (Nat → Int32) → (Nat → Int32) → (Nat → Int32) → (Nat → Int32) → (Nat → Int32) → (Nat → Int32) → (Nat → Int32) → (Nat → Int32) → (Nat → Int32) → (Nat → Int32) → (Nat → Int32) → Int32 → Int32 → Int32 → Int32 → Int32 → Nat → Int32} {A1_sc_copyFrom : (Nat → Int32) → (Nat → Int32) → (Nat → Int32) → (Nat → Int32) → (Nat → Int32) → (Nat → Int32) → (Nat → Int32) → (Nat → Int32) → (Nat → Int32) → (Nat → Int32) → (Nat → Int32) → (Nat → Int32) → Int32 → Int32 → Int32 → Int32 → Int32 → Nat → Int32} {A2_sc_copyFrom : (Nat → Int32) → (Nat → Int32) → (Nat → Int32) → (Nat → Int32) → (Nat → Int32) → (Nat → Int32) → (Nat → Int32) → (Nat → Int32) → (Nat → Int32) → (Nat → Int32) → (Nat → Int32) → (Nat → Int32) → Int32 → Int32 → Int32 → Int32 → Int32 → Nat → Int32} {A3_sc_copyFrom : (Nat → Int32) → (Nat → Int32) → (Nat → Int32) → (Nat → Int32) → (Nat → Int32) → (Nat → Int32) → (Nat → Int32) → (Nat → Int32) → (Nat → Int32) → (Nat → Int32) → (Nat → Int32) → (Nat → Int32) → Int32 → Int32 → Int32 → Int32 → Int32 → Nat → Int32} {A4_sc_copyFrom : (Nat → Int32) → (Nat → Int32) → (Nat → Int32) → (Nat → Int32) → (Nat → Int32) → (Nat → Int32) → (Nat → Int32) → (Nat → Int32) → (Nat → Int32) → (Nat → Int32) → (Nat → Int32) → (Nat → Int32) → Int32 → Int32 → Int32 → Int32 → Int32 → Nat → Int32} {A5_sc_copyFrom : (Nat → Int32) → (Nat → Int32) → (Nat → Int32) → (Nat → Int32) → (Nat → Int32) → (Nat → Int32) → (Nat → Int32) → (Nat → Int32) → (Nat → Int32) → (Nat → Int32) → (Nat → Int32) → (Nat → Int32) → Int32 → Int32 → Int32 → Int32 → Int32 → Nat → Int32} {F0_sc_copyFrom : (Nat → Int32) → (Nat → Int32) → (Nat → Int32) → (Nat → Int32) → (Nat → Int32) → (Nat → Int32) → (Nat → Int32) → (Nat → Int32) → (Nat → Int32) → (Nat → Int32) → (Nat → Int32) → (Nat → Int32) → Int32 → Int32 → Int32 → Int32 → Int32 → Int32} {F1_sc_copyFrom : (Nat → Int32) → (Nat → Int32) → (Nat → Int32) → (Nat → Int32) → (Nat → Int32) → (Nat → Int32) → (Nat → Int32) → (Nat → Int32) → (Nat → Int32) → (Nat → Int32) → (Nat → Int32) → (Nat → Int32) → Int32 → Int32 → Int32 → Int32 → Int32 → Int32} {F2_sc_copyFrom : (Nat → Int32) → (Nat → Int32) → (Nat → Int32) → (Nat → Int32) → (Nat → Int32) → (Nat → Int32) → (Nat → Int32) → (Nat → Int32) → (Nat → Int32) → (Nat → Int32) → (Nat → Int32) → (Nat → Int32) → Int32 → Int32 → Int32 → Int32 → Int32 → Int32} {F3_sc_copyFrom : (Nat → Int32) → (Nat → Int32) → (Nat → Int32) → (Nat → Int32) → (Nat → Int32) → (Nat → Int32) → (Nat → Int32) → (Nat → Int32) → (Nat → Int32) → (Nat → Int32) → (Nat → Int32) → (Nat → Int32) → Int32 → Int32 → Int32 → Int32 → Int32 → Int32} {F4_sc_copyFrom : (Nat → Int32) → (Nat → Int32) → (Nat → Int32) → (Nat → Int32) → (Nat → Int32) → (Nat → Int32) → (Nat → Int32) → (Nat → Int32) → (Nat → Int32) → (Nat → Int32) → (Nat → Int32) → (Nat → Int32) → Int32 → Int32 → Int32 → Int32 → Int32 → Int32} {W_sc_placesThatAre : Int32 → (Nat → Int32) → Int32} {Q_fr_burnFor : Int32 → (Nat → Int32) → (Nat → Int32) → (Nat → Int32) → (Nat → Int32) → (Nat → Int32) → (Nat → Int32) → (Nat → Int32) → (Nat → Int32) → (Nat → Int32) → (Nat → Int32) → (Nat → Int32) → (Nat → Int32) → (Nat → Int32) → (Nat → Int32) → (Nat → Int32) → Int32 → Int32 → Int32 → Int32 → Int32 → Int32 → Int32 → Option ((Nat → Int32) × (Nat → Int32) × (Nat → Int32) × (Nat → Int32) × (Nat → Int32) × Int32 × Int32 × Int32)} : zseg X zFT (zEx 137 (P_if_isWithin W_if_isWithin) (zEx 67 (P_sc_copyFrom A0_sc_copyFrom A1_sc_copyFrom A2_sc_copyFrom A3_sc_copyFrom A4_sc_copyFrom A5_sc_copyFrom F0_sc_copyFrom F1_sc_copyFrom F2_sc_copyFrom F3_sc_copyFrom F4_sc_copyFrom) (zEx 76 (P_sc_placesThatAre W_sc_placesThatAre) (zEx 20 (P_fr_burnFor Q_fr_burnFor) zE0)))) zc_118 (fun p => Nat.beq p 25) 400 0 [.ref 0, .int x] [] (ar, fi, (31, m2, m3, m4, m5)) = (
  zl (W_if_isWithin x 1 100) (fun v1 =>
  bif !decide (v1 = 0) then
   zl (A0_sc_copyFrom (ar 3) (ar 17) (ar 4) (ar 18) (ar 5) (ar 19) (ar 6) (ar 20) (ar 7) (ar 21) (ar 8) (ar 22) (fi 2 6) (fi 2 7) (fi 2 8) (fi 2 9) (fi 2 10)) (fun v2 =>
   zl (A1_sc_copyFrom (ar 3) (ar 17) (ar 4) (ar 18) (ar 5) (ar 19) (ar 6) (ar 20) (ar 7) (ar 21) (ar 8) (ar 22) (fi 2 6) (fi 2 7) (fi 2 8) (fi 2 9) (fi 2 10)) (fun v3 =>
   zl (A2_sc_copyFrom (ar 3) (ar 17) (ar 4) (ar 18) (ar 5) (ar 19) (ar 6) (ar 20) (ar 7) (ar 21) (ar 8) (ar 22) (fi 2 6) (fi 2 7) (fi 2 8) (fi 2 9) (fi 2 10)) (fun v4 =>
   zl (A3_sc_copyFrom (ar 3) (ar 17) (ar 4) (ar 18) (ar 5) (ar 19) (ar 6) (ar 20) (ar 7) (ar 21) (ar 8) (ar 22) (fi 2 6) (fi 2 7) (fi 2 8) (fi 2 9) (fi 2 10)) (fun v5 =>
   zl (A4_sc_copyFrom (ar 3) (ar 17) (ar 4) (ar 18) (ar 5) (ar 19) (ar 6) (ar 20) (ar 7) (ar 21) (ar 8) (ar 22) (fi 2 6) (fi 2 7) (fi 2 8) (fi 2 9) (fi 2 10)) (fun v6 =>
   zl (A5_sc_copyFrom (ar 3) (ar 17) (ar 4) (ar 18) (ar 5) (ar 19) (ar 6) (ar 20) (ar 7) (ar 21) (ar 8) (ar 22) (fi 2 6) (fi 2 7) (fi 2 8) (fi 2 9) (fi 2 10)) (fun v7 =>
   zl (F0_sc_copyFrom (ar 3) (ar 17) (ar 4) (ar 18) (ar 5) (ar 19) (ar 6) (ar 20) (ar 7) (ar 21) (ar 8) (ar 22) (fi 2 6) (fi 2 7) (fi 2 8) (fi 2 9) (fi 2 10)) (fun v8 =>
   zl (F1_sc_copyFrom (ar 3) (ar 17) (ar 4) (ar 18) (ar 5) (ar 19) (ar 6) (ar 20) (ar 7) (ar 21) (ar 8) (ar 22) (fi 2 6) (fi 2 7) (fi 2 8) (fi 2 9) (fi 2 10)) (fun v9 =>
   zl (F2_sc_copyFrom (ar 3) (ar 17) (ar 4) (ar 18) (ar 5) (ar 19) (ar 6) (ar 20) (ar 7) (ar 21) (ar 8) (ar 22) (fi 2 6) (fi 2 7) (fi 2 8) (fi 2 9) (fi 2 10)) (fun v10 =>
   zl (F3_sc_copyFrom (ar 3) (ar 17) (ar 4) (ar 18) (ar 5) (ar 19) (ar 6) (ar 20) (ar 7) (ar 21) (ar 8) (ar 22) (fi 2 6) (fi 2 7) (fi 2 8) (fi 2 9) (fi 2 10)) (fun v11 =>
   zl (F4_sc_copyFrom (ar 3) (ar 17) (ar 4) (ar 18) (ar 5) (ar 19) (ar 6) (ar 20) (ar 7) (ar 21) (ar 8) (ar 22) (fi 2 6) (fi 2 7) (fi 2 8) (fi 2 9) (fi 2 10)) (fun v12 =>
   some (.inl (25, [.ref 0, .int x, .int 0], [], ((zua (zua (zua (zua (zua (zua ar 17 v2) 18 v3) 19 v4) 20 v5) 21 v6) 22 v7), (zuf (zuf (zuf (zuf (zuf fi 16 6 v8) 16 7 v9) 16 8 v10) 16 9 v11) 16 10 v12), (31, m2, m3, m4, m5)))))))))))))))
  else
   some (.inr (some (.int (-1)), (ar, fi, (31, m2, m3, m4, m5))))) : Option ((Nat × List Value × List Value × zH2) ⊕ zO2)) := by with_unfolding_all rfl
set_option maxRecDepth 20000 in
theorem e_if_over_0_v1 {X : Nat × (Nat → Int32)} {ar fi : Nat → Nat → Int32} {m2 m3 m4 m5 : Nat} {x : Int32} {o : zO2} : ∀ (q : T_if_over), q_if_over x (ar 3) (ar 4) (ar 5) (ar 6) (ar 7) (ar 8) (ar 17) (ar 18) (ar 19) (ar 20) (ar 21) (ar 22) (ar 32) (ar 33) (ar 34) (ar 35) (ar 36) (ar 37) (ar 38) (ar 50) (ar 51) (fi 2 6) (fi 2 7) (fi 2 8) (fi 2 9) (fi 2 10) (fi 16 6) (fi 16 7) (fi 16 8) (fi 16 9) (fi 16 10) (fi 31 8) (fi 31 9) = some q → (fun t => O_if_over_0_v1 ar fi m2 m3 m4 m5 t = o) q → zR2 X zFT (zEx 137 S_if_isWithin (zEx 67 S_sc_copyFrom (zEx 76 S_sc_placesThatAre (zEx 20 S_fr_burnFor zE0)))) zc_118 0 [.ref 0, .int x] [] (ar, fi, (31, m2, m3, m4, m5)) o := by
  intro q h hq
  unfold q_if_over at h
  refine zT_seg t_if_over_0_v1 ?_
  obtain ⟨TT, hTT⟩ : ∃ T, T = zT X zFT (zEx 137 S_if_isWithin (zEx 67 S_sc_copyFrom (zEx 76 S_sc_placesThatAre (zEx 20 S_fr_burnFor zE0)))) zc_118 o := ⟨_, rfl⟩
  rw [← hTT]
  refine zl_el h (fun h => zU_l hTT ?_)
  refine zb_el h (fun hb h => zU_t hTT hb ?_) (fun hb h => zU_f hTT hb ?_)
  · refine zl_el h (fun h => zU_l hTT ?_)
    refine zl_el h (fun h => zU_l hTT ?_)
    refine zl_el h (fun h => zU_l hTT ?_)
    refine zl_el h (fun h => zU_l hTT ?_)
    refine zl_el h (fun h => zU_l hTT ?_)
    refine zl_el h (fun h => zU_l hTT ?_)
    refine zl_el h (fun h => zU_l hTT ?_)
    refine zl_el h (fun h => zU_l hTT ?_)
    refine zl_el h (fun h => zU_l hTT ?_)
    refine zl_el h (fun h => zU_l hTT ?_)
    refine zl_el h (fun h => zU_l hTT ?_)
    rw [hTT]
    refine zR2_hp ?_ ?_ (zlp_K k_if_over_25_0_v1 h hq)
    · first | with_reducible rfl | exact hA9_if_over _ _ _ _ _ _ _
    · first | with_reducible rfl | exact hF1_if_over _ _ _ _ _ _
  · rw [hTT]
    have hz := zsi (P := (fun t => O_if_over_0_v1 ar fi m2 m3 m4 m5 t = o)) h hq
    refine (zO_mk ?_ ?_).trans hz
    · first | with_reducible rfl | exact hA10_if_over _
    · first | with_reducible rfl | exact hF6_if_over _
theorem ok_if_over (X : Nat × (Nat → Int32)) : zOkS X 118 S_if_over 8 := zOkS_new (zOkE_cons (ok_if_isWithin X) (by decide) (zOkE_cons (ok_sc_copyFrom X) (by decide) (zOkE_cons (ok_sc_placesThatAre X) (by decide) (zOkE_cons (ok_fr_burnFor X) (by decide) (zOkE_nil X 7))))) (by
  intro args g o h
  obtain ⟨ar, fi, m1, m2, m3, m4, m5⟩ := g
  unfold S_if_over P_if_over at h
  split at h
  · refine zb_el h (fun hI0 k0 => ?_) (fun _ h10 => ?_)
    · try simp only [Bool.and_eq_true] at hI0
      obtain ⟨j0, j1⟩ := hI0
      have e0 := Nat.eq_of_beq_eq_true j0
      subst e0
      have e9 : m1 = 23 := Nat.eq_of_beq_eq_true j1
      subst e9
      exact zpe_el k0 (fun t ht ho => by obtain ⟨t0, t1, t2, t3, t4, t5, t6, t7, t8, t9, t10, t11, t12, t13, t14⟩ := t; exact e_if_over_0_v0 _ ht ho)
    · skip
      refine zb_el h10 (fun hI1 k1 => ?_) (fun _ h11 => ?_)
      · try simp only [Bool.and_eq_true] at hI1
        obtain ⟨j0, j1⟩ := hI1
        have e0 := Nat.eq_of_beq_eq_true j0
        subst e0
        have e9 : m1 = 31 := Nat.eq_of_beq_eq_true j1
        subst e9
        exact zpe_el k1 (fun t ht ho => by obtain ⟨t0, t1, t2, t3, t4, t5, t6, t7, t8, t9, t10, t11, t12, t13, t14⟩ := t; exact e_if_over_0_v1 _ ht ho)
      · cases h11
  · cases h)
