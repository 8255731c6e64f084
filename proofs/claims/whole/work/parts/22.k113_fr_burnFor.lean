abbrev T_fr_burnFor : Type := (Nat → Int32) × (Nat → Int32) × (Nat → Int32) × (Nat → Int32) × (Nat → Int32) × Int32 × Int32 × Int32
abbrev U_fr_burnFor_3 : Type := Int32 × (Nat → Int32) × (Nat → Int32) × (Nat → Int32) × (Nat → Int32) × (Nat → Int32) × Int32 × Int32 × Int32
noncomputable def b_fr_burnFor_3 (z : Int32) (a3 : Nat → Int32) (a6 : Nat → Int32) (a7 : Nat → Int32) (a8 : Nat → Int32) (a24 : Nat → Int32) (a25 : Nat → Int32) (a27 : Nat → Int32) (a28 : Nat → Int32) (a29 : Nat → Int32) (a30 : Nat → Int32) (f2_6 : Int32) (f2_8 : Int32) (f23_8 : Int32) (f23_9 : Int32) (l4 : Int32) (b4 : Nat → Int32) (b5 : Nat → Int32) (b26 : Nat → Int32) (b50 : Nat → Int32) (b51 : Nat → Int32) (c2_7 : Int32) (c2_9 : Int32) (c2_10 : Int32) : Option (U_fr_burnFor_3 ⊕ T_fr_burnFor) :=
  bif decide (z ≤ l4) then
   some (.inr (b4, b5, b26, b50, b51, c2_7, c2_9, c2_10))
  else
   bif decide (9999 ≤ c2_9) then
    some (.inr (b4, b5, b26, b50, b51, c2_7, c2_9, c2_10))
   else
    zbd (q_fr_passMinute a3 b4 b5 a6 a7 a8 a24 a25 b26 a27 a28 a29 a30 b50 b51 (f2_6) c2_7 (f2_8) c2_9 c2_10 (f23_8) (f23_9)) (fun v1 =>
    some (.inl (l4 + 1, ((v1.1)), ((v1.2.1)), ((v1.2.2.1)), ((v1.2.2.2.1)), ((v1.2.2.2.2.1)), (v1.2.2.2.2.2.1), (v1.2.2.2.2.2.2.1), (v1.2.2.2.2.2.2.2))))
noncomputable def f_fr_burnFor_3 (z : Int32) (a3 : Nat → Int32) (a6 : Nat → Int32) (a7 : Nat → Int32) (a8 : Nat → Int32) (a24 : Nat → Int32) (a25 : Nat → Int32) (a27 : Nat → Int32) (a28 : Nat → Int32) (a29 : Nat → Int32) (a30 : Nat → Int32) (f2_6 : Int32) (f2_8 : Int32) (f23_8 : Int32) (f23_9 : Int32) : U_fr_burnFor_3 → Option (U_fr_burnFor_3 ⊕ T_fr_burnFor) := fun s => b_fr_burnFor_3 z a3 a6 a7 a8 a24 a25 a27 a28 a29 a30 f2_6 f2_8 f23_8 f23_9 s.1 s.2.1 s.2.2.1 s.2.2.2.1 s.2.2.2.2.1 s.2.2.2.2.2.1 s.2.2.2.2.2.2.1 s.2.2.2.2.2.2.2.1 s.2.2.2.2.2.2.2.2
noncomputable def l_fr_burnFor_3 (z : Int32) (a3 : Nat → Int32) (a6 : Nat → Int32) (a7 : Nat → Int32) (a8 : Nat → Int32) (a24 : Nat → Int32) (a25 : Nat → Int32) (a27 : Nat → Int32) (a28 : Nat → Int32) (a29 : Nat → Int32) (a30 : Nat → Int32) (f2_6 : Int32) (f2_8 : Int32) (f23_8 : Int32) (f23_9 : Int32) (l4 : Int32) (b4 : Nat → Int32) (b5 : Nat → Int32) (b26 : Nat → Int32) (b50 : Nat → Int32) (b51 : Nat → Int32) (c2_7 : Int32) (c2_9 : Int32) (c2_10 : Int32) : Option T_fr_burnFor := zlp (f_fr_burnFor_3 z a3 a6 a7 a8 a24 a25 a27 a28 a29 a30 f2_6 f2_8 f23_8 f23_9) (l4, b4, b5, b26, b50, b51, c2_7, c2_9, c2_10)
noncomputable def q_fr_burnFor (z : Int32) (a3 : Nat → Int32) (a4 : Nat → Int32) (a5 : Nat → Int32) (a6 : Nat → Int32) (a7 : Nat → Int32) (a8 : Nat → Int32) (a24 : Nat → Int32) (a25 : Nat → Int32) (a26 : Nat → Int32) (a27 : Nat → Int32) (a28 : Nat → Int32) (a29 : Nat → Int32) (a30 : Nat → Int32) (a50 : Nat → Int32) (a51 : Nat → Int32) (f2_6 : Int32) (f2_7 : Int32) (f2_8 : Int32) (f2_9 : Int32) (f2_10 : Int32) (f23_8 : Int32) (f23_9 : Int32) : Option T_fr_burnFor :=
  l_fr_burnFor_3 z a3 a6 a7 a8 a24 a25 a27 a28 a29 a30 f2_6 f2_8 f23_8 f23_9 0 a4 a5 a26 a50 a51 (f2_7) (f2_9) (f2_10)
def P_fr_burnFor (Q : Int32 → (Nat → Int32) → (Nat → Int32) → (Nat → Int32) → (Nat → Int32) → (Nat → Int32) → (Nat → Int32) → (Nat → Int32) → (Nat → Int32) → (Nat → Int32) → (Nat → Int32) → (Nat → Int32) → (Nat → Int32) → (Nat → Int32) → (Nat → Int32) → (Nat → Int32) → Int32 → Int32 → Int32 → Int32 → Int32 → Int32 → Int32 → Option ((Nat → Int32) × (Nat → Int32) × (Nat → Int32) × (Nat → Int32) × (Nat → Int32) × Int32 × Int32 × Int32)) : zSp := fun as g => match as with
  | [.ref a, .ref b, .ref c, .int z] => bif Nat.beq a 49 && Nat.beq b 2 && Nat.beq c 23 then zpe (Q z (g.1 3) (g.1 4) (g.1 5) (g.1 6) (g.1 7) (g.1 8) (g.1 24) (g.1 25) (g.1 26) (g.1 27) (g.1 28) (g.1 29) (g.1 30) (g.1 50) (g.1 51) (g.2.1 2 6) (g.2.1 2 7) (g.2.1 2 8) (g.2.1 2 9) (g.2.1 2 10) (g.2.1 23 8) (g.2.1 23 9)) (fun t => (none, ((zua (zua (zua (zua (zua g.1 4 t.1) 5 t.2.1) 26 t.2.2.1) 50 t.2.2.2.1) 51 t.2.2.2.2.1), (zuf (zuf (zuf g.2.1 2 7 t.2.2.2.2.2.1) 2 9 t.2.2.2.2.2.2.1) 2 10 t.2.2.2.2.2.2.2), g.2.2))) else bif Nat.beq a 49 && Nat.beq b 2 && Nat.beq c 31 then zpe (Q z (g.1 3) (g.1 4) (g.1 5) (g.1 6) (g.1 7) (g.1 8) (g.1 32) (g.1 33) (g.1 34) (g.1 35) (g.1 36) (g.1 37) (g.1 38) (g.1 50) (g.1 51) (g.2.1 2 6) (g.2.1 2 7) (g.2.1 2 8) (g.2.1 2 9) (g.2.1 2 10) (g.2.1 31 8) (g.2.1 31 9)) (fun t => (none, ((zua (zua (zua (zua (zua g.1 4 t.1) 5 t.2.1) 34 t.2.2.1) 50 t.2.2.2.1) 51 t.2.2.2.2.1), (zuf (zuf (zuf g.2.1 2 7 t.2.2.2.2.2.1) 2 9 t.2.2.2.2.2.2.1) 2 10 t.2.2.2.2.2.2.2), g.2.2))) else bif Nat.beq a 49 && Nat.beq b 16 && Nat.beq c 23 then zpe (Q z (g.1 17) (g.1 18) (g.1 19) (g.1 20) (g.1 21) (g.1 22) (g.1 24) (g.1 25) (g.1 26) (g.1 27) (g.1 28) (g.1 29) (g.1 30) (g.1 50) (g.1 51) (g.2.1 16 6) (g.2.1 16 7) (g.2.1 16 8) (g.2.1 16 9) (g.2.1 16 10) (g.2.1 23 8) (g.2.1 23 9)) (fun t => (none, ((zua (zua (zua (zua (zua g.1 18 t.1) 19 t.2.1) 26 t.2.2.1) 50 t.2.2.2.1) 51 t.2.2.2.2.1), (zuf (zuf (zuf g.2.1 16 7 t.2.2.2.2.2.1) 16 9 t.2.2.2.2.2.2.1) 16 10 t.2.2.2.2.2.2.2), g.2.2))) else bif Nat.beq a 49 && Nat.beq b 16 && Nat.beq c 31 then zpe (Q z (g.1 17) (g.1 18) (g.1 19) (g.1 20) (g.1 21) (g.1 22) (g.1 32) (g.1 33) (g.1 34) (g.1 35) (g.1 36) (g.1 37) (g.1 38) (g.1 50) (g.1 51) (g.2.1 16 6) (g.2.1 16 7) (g.2.1 16 8) (g.2.1 16 9) (g.2.1 16 10) (g.2.1 31 8) (g.2.1 31 9)) (fun t => (none, ((zua (zua (zua (zua (zua g.1 18 t.1) 19 t.2.1) 34 t.2.2.1) 50 t.2.2.2.1) 51 t.2.2.2.2.1), (zuf (zuf (zuf g.2.1 16 7 t.2.2.2.2.2.1) 16 9 t.2.2.2.2.2.2.1) 16 10 t.2.2.2.2.2.2.2), g.2.2))) else none
  | _ => none
noncomputable abbrev S_fr_burnFor : zSp := P_fr_burnFor q_fr_burnFor
theorem hA17_fr_burnFor (F : Nat → Nat → Int32) : F = (zua (zua (zua (zua (zua F 18 (F 18)) 19 (F 19)) 34 (F 34)) 50 (F 50)) 51 (F 51)) := zuak_ix F [] [(18, none), (19, none), (34, none), (50, none), (51, none)] rfl
theorem hA16_fr_burnFor (F : Nat → Nat → Int32) (w0 w1 w2 w3 w4 w5 w6 w7 w8 w9 : Nat → Int32) : (zua (zua (zua (zua (zua (zua (zua (zua (zua (zua F 18 w0) 19 w1) 34 w2) 50 w3) 51 w4) 18 w5) 19 w6) 34 w7) 50 w8) 51 w9) = (zua (zua (zua (zua (zua F 18 w5) 19 w6) 34 w7) 50 w8) 51 w9) := zuak_ix F [(18, w0), (19, w1), (34, w2), (50, w3), (51, w4), (18, w5), (19, w6), (34, w7), (50, w8), (51, w9)] [(18, some 5), (19, some 6), (34, some 7), (50, some 8), (51, some 9)] rfl
theorem hA15_fr_burnFor (F : Nat → Nat → Int32) (w0 w1 w2 w3 w4 : Nat → Int32) : (zua (zua (zua (zua (zua F 18 w0) 19 w1) 34 w2) 50 w3) 51 w4) = (zua (zua (zua (zua (zua F 18 w0) 19 w1) 34 w2) 50 w3) 51 w4) := zuak_ix F [(18, w0), (19, w1), (34, w2), (50, w3), (51, w4)] [(18, some 0), (19, some 1), (34, some 2), (50, some 3), (51, some 4)] rfl
theorem hF14_fr_burnFor (F : Nat → Nat → Int32) : F = (zuf (zuf (zuf F 16 7 (F 16 7)) 16 9 (F 16 9)) 16 10 (F 16 10)) := zufk_ix F [] [((16, 7), none), ((16, 9), none), ((16, 10), none)] rfl
theorem hA13_fr_burnFor (F : Nat → Nat → Int32) : F = (zua (zua (zua (zua (zua F 18 (F 18)) 19 (F 19)) 26 (F 26)) 50 (F 50)) 51 (F 51)) := zuak_ix F [] [(18, none), (19, none), (26, none), (50, none), (51, none)] rfl
theorem hF12_fr_burnFor (F : Nat → Nat → Int32) (w0 w1 w2 w3 w4 w5 : Int32) : (zuf (zuf (zuf (zuf (zuf (zuf F 16 7 w0) 16 9 w1) 16 10 w2) 16 7 w3) 16 9 w4) 16 10 w5) = (zuf (zuf (zuf F 16 7 w3) 16 9 w4) 16 10 w5) := zufk_ix F [((16, 7), w0), ((16, 9), w1), ((16, 10), w2), ((16, 7), w3), ((16, 9), w4), ((16, 10), w5)] [((16, 7), some 3), ((16, 9), some 4), ((16, 10), some 5)] rfl
theorem hA11_fr_burnFor (F : Nat → Nat → Int32) (w0 w1 w2 w3 w4 w5 w6 w7 w8 w9 : Nat → Int32) : (zua (zua (zua (zua (zua (zua (zua (zua (zua (zua F 18 w0) 19 w1) 26 w2) 50 w3) 51 w4) 18 w5) 19 w6) 26 w7) 50 w8) 51 w9) = (zua (zua (zua (zua (zua F 18 w5) 19 w6) 26 w7) 50 w8) 51 w9) := zuak_ix F [(18, w0), (19, w1), (26, w2), (50, w3), (51, w4), (18, w5), (19, w6), (26, w7), (50, w8), (51, w9)] [(18, some 5), (19, some 6), (26, some 7), (50, some 8), (51, some 9)] rfl
theorem hF10_fr_burnFor (F : Nat → Nat → Int32) (w0 w1 w2 : Int32) : (zuf (zuf (zuf F 16 7 w0) 16 9 w1) 16 10 w2) = (zuf (zuf (zuf F 16 7 w0) 16 9 w1) 16 10 w2) := zufk_ix F [((16, 7), w0), ((16, 9), w1), ((16, 10), w2)] [((16, 7), some 0), ((16, 9), some 1), ((16, 10), some 2)] rfl
theorem hA9_fr_burnFor (F : Nat → Nat → Int32) (w0 w1 w2 w3 w4 : Nat → Int32) : (zua (zua (zua (zua (zua F 18 w0) 19 w1) 26 w2) 50 w3) 51 w4) = (zua (zua (zua (zua (zua F 18 w0) 19 w1) 26 w2) 50 w3) 51 w4) := zuak_ix F [(18, w0), (19, w1), (26, w2), (50, w3), (51, w4)] [(18, some 0), (19, some 1), (26, some 2), (50, some 3), (51, some 4)] rfl
theorem hA8_fr_burnFor (F : Nat → Nat → Int32) : F = (zua (zua (zua (zua (zua F 4 (F 4)) 5 (F 5)) 34 (F 34)) 50 (F 50)) 51 (F 51)) := zuak_ix F [] [(4, none), (5, none), (34, none), (50, none), (51, none)] rfl
theorem hA7_fr_burnFor (F : Nat → Nat → Int32) (w0 w1 w2 w3 w4 w5 w6 w7 w8 w9 : Nat → Int32) : (zua (zua (zua (zua (zua (zua (zua (zua (zua (zua F 4 w0) 5 w1) 34 w2) 50 w3) 51 w4) 4 w5) 5 w6) 34 w7) 50 w8) 51 w9) = (zua (zua (zua (zua (zua F 4 w5) 5 w6) 34 w7) 50 w8) 51 w9) := zuak_ix F [(4, w0), (5, w1), (34, w2), (50, w3), (51, w4), (4, w5), (5, w6), (34, w7), (50, w8), (51, w9)] [(4, some 5), (5, some 6), (34, some 7), (50, some 8), (51, some 9)] rfl
theorem hA6_fr_burnFor (F : Nat → Nat → Int32) (w0 w1 w2 w3 w4 : Nat → Int32) : (zua (zua (zua (zua (zua F 4 w0) 5 w1) 34 w2) 50 w3) 51 w4) = (zua (zua (zua (zua (zua F 4 w0) 5 w1) 34 w2) 50 w3) 51 w4) := zuak_ix F [(4, w0), (5, w1), (34, w2), (50, w3), (51, w4)] [(4, some 0), (5, some 1), (34, some 2), (50, some 3), (51, some 4)] rfl
theorem hF5_fr_burnFor (F : Nat → Nat → Int32) : F = (zuf (zuf (zuf F 2 7 (F 2 7)) 2 9 (F 2 9)) 2 10 (F 2 10)) := zufk_ix F [] [((2, 7), none), ((2, 9), none), ((2, 10), none)] rfl
theorem hA4_fr_burnFor (F : Nat → Nat → Int32) : F = (zua (zua (zua (zua (zua F 4 (F 4)) 5 (F 5)) 26 (F 26)) 50 (F 50)) 51 (F 51)) := zuak_ix F [] [(4, none), (5, none), (26, none), (50, none), (51, none)] rfl
theorem hF3_fr_burnFor (F : Nat → Nat → Int32) (w0 w1 w2 w3 w4 w5 : Int32) : (zuf (zuf (zuf (zuf (zuf (zuf F 2 7 w0) 2 9 w1) 2 10 w2) 2 7 w3) 2 9 w4) 2 10 w5) = (zuf (zuf (zuf F 2 7 w3) 2 9 w4) 2 10 w5) := zufk_ix F [((2, 7), w0), ((2, 9), w1), ((2, 10), w2), ((2, 7), w3), ((2, 9), w4), ((2, 10), w5)] [((2, 7), some 3), ((2, 9), some 4), ((2, 10), some 5)] rfl
theorem hA2_fr_burnFor (F : Nat → Nat → Int32) (w0 w1 w2 w3 w4 w5 w6 w7 w8 w9 : Nat → Int32) : (zua (zua (zua (zua (zua (zua (zua (zua (zua (zua F 4 w0) 5 w1) 26 w2) 50 w3) 51 w4) 4 w5) 5 w6) 26 w7) 50 w8) 51 w9) = (zua (zua (zua (zua (zua F 4 w5) 5 w6) 26 w7) 50 w8) 51 w9) := zuak_ix F [(4, w0), (5, w1), (26, w2), (50, w3), (51, w4), (4, w5), (5, w6), (26, w7), (50, w8), (51, w9)] [(4, some 5), (5, some 6), (26, some 7), (50, some 8), (51, some 9)] rfl
theorem hF1_fr_burnFor (F : Nat → Nat → Int32) (w0 w1 w2 : Int32) : (zuf (zuf (zuf F 2 7 w0) 2 9 w1) 2 10 w2) = (zuf (zuf (zuf F 2 7 w0) 2 9 w1) 2 10 w2) := zufk_ix F [((2, 7), w0), ((2, 9), w1), ((2, 10), w2)] [((2, 7), some 0), ((2, 9), some 1), ((2, 10), some 2)] rfl
theorem hA0_fr_burnFor (F : Nat → Nat → Int32) (w0 w1 w2 w3 w4 : Nat → Int32) : (zua (zua (zua (zua (zua F 4 w0) 5 w1) 26 w2) 50 w3) 51 w4) = (zua (zua (zua (zua (zua F 4 w0) 5 w1) 26 w2) 50 w3) 51 w4) := zuak_ix F [(4, w0), (5, w1), (26, w2), (50, w3), (51, w4)] [(4, some 0), (5, some 1), (26, some 2), (50, some 3), (51, some 4)] rfl
def O_fr_burnFor_49_2_23 (ar fi : Nat → Nat → Int32) (m1 : Nat) (m2 : Nat) (m3 : Nat) (m4 : Nat) (m5 : Nat) (t : T_fr_burnFor) : zO2 := match t with
  | (t0, t1, t2, t3, t4, t5, t6, t7) => (none, ((zua (zua (zua (zua (zua ar 4 t0) 5 t1) 26 t2) 50 t3) 51 t4), (zuf (zuf (zuf fi 2 7 t5) 2 9 t6) 2 10 t7), (m1, m2, m3, m4, m5)))
def M_fr_burnFor_3_49_2_23 (X : Nat × (Nat → Int32)) (E : zTE) (ar fi : Nat → Nat → Int32) (m1 : Nat) (m2 : Nat) (m3 : Nat) (m4 : Nat) (m5 : Nat) (z : Int32) (o : zO2) (s : U_fr_burnFor_3) : Prop := match s with
  | (l4, b4, b5, b26, b50, b51, c2_7, c2_9, c2_10) => zR2 X zFT E zc_20 3 [.ref 49, .ref 2, .ref 23, .int z, .int l4] [] ((zua (zua (zua (zua (zua ar 4 b4) 5 b5) 26 b26) 50 b50) 51 b51), (zuf (zuf (zuf fi 2 7 c2_7) 2 9 c2_9) 2 10 c2_10), (m1, m2, m3, m4, m5)) o
set_option maxRecDepth 1000000 in
theorem t3_fr_burnFor_49_2_23 {X : Nat × (Nat → Int32)} {ar fi : Nat → Nat → Int32} {m1 m2 m3 m4 m5 : Nat} {z : Int32} {l4 : Int32} {b4 : Nat → Int32} {b5 : Nat → Int32} {b26 : Nat → Int32} {b50 : Nat → Int32} {b51 : Nat → Int32} {c2_7 : Int32} {c2_9 : Int32} {c2_10 : Int32} {Q_fr_passMinute : (Nat → Int32) → (Nat → Int32) → (Nat → Int32) → (Nat → Int32) → (Nat → Int32) → (Nat → Int32) → (Nat → Int32) → (Nat → Int32) → (Nat → Int32) → (Nat → Int32) → (Nat → Int32) → (Nat → Int32) → (Nat → Int32) → (Nat → Int32) → (Nat → Int32) → Int32 → Int32 → Int32 → Int32 → Int32 → Int32 → Int32 → Option ((Nat → Int32) × (Nat → Int32) × (Nat → Int32) × (Nat → Int32) × (Nat → Int32) × Int32 × Int32 × Int32)} : zseg X zFT (zEx 21 (P_fr_passMinute Q_fr_passMinute) zE0) zc_20 (fun p => Nat.beq p 3) 400 3 [.ref 49, .ref 2, .ref 23, .int z, .int l4] [] ((zua (zua (zua (zua (zua ar 4 b4) 5 b5) 26 b26) 50 b50) 51 b51), (zuf (zuf (zuf fi 2 7 c2_7) 2 9 c2_9) 2 10 c2_10), (m1, m2, m3, m4, m5)) = (
  bif decide (z ≤ l4) then
   some (.inr (none, ((zua (zua (zua (zua (zua ar 4 b4) 5 b5) 26 b26) 50 b50) 51 b51), (zuf (zuf (zuf fi 2 7 c2_7) 2 9 c2_9) 2 10 c2_10), (m1, m2, m3, m4, m5))))
  else
   bif decide (9999 ≤ c2_9) then
    some (.inr (none, ((zua (zua (zua (zua (zua ar 4 b4) 5 b5) 26 b26) 50 b50) 51 b51), (zuf (zuf (zuf fi 2 7 c2_7) 2 9 c2_9) 2 10 c2_10), (m1, m2, m3, m4, m5))))
   else
    zl (Q_fr_passMinute (ar 3) b4 b5 (ar 6) (ar 7) (ar 8) (ar 24) (ar 25) b26 (ar 27) (ar 28) (ar 29) (ar 30) b50 b51 (fi 2 6) c2_7 (fi 2 8) c2_9 c2_10 (fi 23 8) (fi 23 9)) (fun v1 => zg v1.isSome (
    some (.inl (3, [.ref 49, .ref 2, .ref 23, .int z, .int (l4 + 1)], [], ((zua (zua (zua (zua (zua (zua (zua (zua (zua (zua ar 4 b4) 5 b5) 26 b26) 50 b50) 51 b51) 4 (((zgt v1).1))) 5 (((zgt v1).2.1))) 26 (((zgt v1).2.2.1))) 50 (((zgt v1).2.2.2.1))) 51 (((zgt v1).2.2.2.2.1))), (zuf (zuf (zuf (zuf (zuf (zuf fi 2 7 c2_7) 2 9 c2_9) 2 10 c2_10) 2 7 (((zgt v1).2.2.2.2.2.1))) 2 9 (((zgt v1).2.2.2.2.2.2.1))) 2 10 (((zgt v1).2.2.2.2.2.2.2))), (m1, m2, m3, m4, m5)))))) : Option ((Nat × List Value × List Value × zH2) ⊕ zO2)) := by with_unfolding_all rfl
set_option maxRecDepth 20000 in
theorem k_fr_burnFor_3_49_2_23 {X : Nat × (Nat → Int32)} {ar fi : Nat → Nat → Int32} {m1 m2 m3 m4 m5 : Nat} {z : Int32} {o : zO2} : ∀ (s : U_fr_burnFor_3) (q : U_fr_burnFor_3 ⊕ T_fr_burnFor), f_fr_burnFor_3 z (ar 3) (ar 6) (ar 7) (ar 8) (ar 24) (ar 25) (ar 27) (ar 28) (ar 29) (ar 30) (fi 2 6) (fi 2 8) (fi 23 8) (fi 23 9) s = some q → zq (M_fr_burnFor_3_49_2_23 X (zEx 21 S_fr_passMinute zE0) ar fi m1 m2 m3 m4 m5 z o) (fun t => O_fr_burnFor_49_2_23 ar fi m1 m2 m3 m4 m5 t = o) q → M_fr_burnFor_3_49_2_23 X (zEx 21 S_fr_passMinute zE0) ar fi m1 m2 m3 m4 m5 z o s := by
  intro s q h hq
  obtain ⟨l4, b4, b5, b26, b50, b51, c2_7, c2_9, c2_10⟩ := s
  have h : b_fr_burnFor_3 z (ar 3) (ar 6) (ar 7) (ar 8) (ar 24) (ar 25) (ar 27) (ar 28) (ar 29) (ar 30) (fi 2 6) (fi 2 8) (fi 23 8) (fi 23 9) l4 b4 b5 b26 b50 b51 c2_7 c2_9 c2_10 = some q := h
  unfold b_fr_burnFor_3 at h
  show zR2 X zFT (zEx 21 S_fr_passMinute zE0) zc_20 3 [.ref 49, .ref 2, .ref 23, .int z, .int l4] [] ((zua (zua (zua (zua (zua ar 4 b4) 5 b5) 26 b26) 50 b50) 51 b51), (zuf (zuf (zuf fi 2 7 c2_7) 2 9 c2_9) 2 10 c2_10), (m1, m2, m3, m4, m5)) o
  refine zT_seg t3_fr_burnFor_49_2_23 ?_
  obtain ⟨TT, hTT⟩ : ∃ T, T = zT X zFT (zEx 21 S_fr_passMinute zE0) zc_20 o := ⟨_, rfl⟩
  rw [← hTT]
  refine zb_el h (fun hb h => zU_t hTT hb ?_) (fun hb h => zU_f hTT hb ?_)
  · rw [hTT]
    have hz := zsi h hq
    refine (zO_mk ?_ ?_).trans hz
    · first | with_reducible rfl | exact hA0_fr_burnFor _ _ _ _ _ _
    · first | with_reducible rfl | exact hF1_fr_burnFor _ _ _ _
  · refine zb_el h (fun hb h => zU_t hTT hb ?_) (fun hb h => zU_f hTT hb ?_)
    · rw [hTT]
      have hz := zsi h hq
      refine (zO_mk ?_ ?_).trans hz
      · first | with_reducible rfl | exact hA0_fr_burnFor _ _ _ _ _ _
      · first | with_reducible rfl | exact hF1_fr_burnFor _ _ _ _
    · refine zbd_el h (fun v1 hv h => zU_c hTT hv ?_)
      rw [hTT]
      have hz := zsi h hq
      refine zR2_hp ?_ ?_ hz
      · first | with_reducible rfl | exact hA2_fr_burnFor _ _ _ _ _ _ _ _ _ _ _
      · first | with_reducible rfl | exact hF3_fr_burnFor _ _ _ _ _ _ _
set_option maxRecDepth 1000000 in
theorem t_fr_burnFor_49_2_23 {X : Nat × (Nat → Int32)} {ar fi : Nat → Nat → Int32} {m1 m2 m3 m4 m5 : Nat} {z : Int32} {Q_fr_passMinute : (Nat → Int32) → (Nat → Int32) → (Nat → Int32) → (Nat → Int32) → (Nat → Int32) → (Nat → Int32) → (Nat → Int32) → (Nat → Int32) → (Nat → Int32) → (Nat → Int32) → (Nat → Int32) → (Nat → Int32) → (Nat → Int32) → (Nat → Int32) → (Nat → Int32) → Int32 → Int32 → Int32 → Int32 → Int32 → Int32 → Int32 → Option ((Nat → Int32) × (Nat → Int32) × (Nat → Int32) × (Nat → Int32) × (Nat → Int32) × Int32 × Int32 × Int32)} : zseg X zFT (zEx 21 (P_fr_passMinute Q_fr_passMinute) zE0) zc_20 (fun p => Nat.beq p 3) 400 0 [.ref 49, .ref 2, .ref 23, .int z] [] (ar, fi, (m1, m2, m3, m4, m5)) = (
  some (.inl (3, [.ref 49, .ref 2, .ref 23, .int z, .int 0], [], (ar, fi, (m1, m2, m3, m4, m5)))) : Option ((Nat × List Value × List Value × zH2) ⊕ zO2)) := by with_unfolding_all rfl
set_option maxRecDepth 20000 in
theorem e_fr_burnFor_49_2_23 {X : Nat × (Nat → Int32)} {ar fi : Nat → Nat → Int32} {m1 m2 m3 m4 m5 : Nat} {z : Int32} {o : zO2} : ∀ (q : T_fr_burnFor), q_fr_burnFor z (ar 3) (ar 4) (ar 5) (ar 6) (ar 7) (ar 8) (ar 24) (ar 25) (ar 26) (ar 27) (ar 28) (ar 29) (ar 30) (ar 50) (ar 51) (fi 2 6) (fi 2 7) (fi 2 8) (fi 2 9) (fi 2 10) (fi 23 8) (fi 23 9) = some q → (fun t => O_fr_burnFor_49_2_23 ar fi m1 m2 m3 m4 m5 t = o) q → zR2 X zFT (zEx 21 S_fr_passMinute zE0) zc_20 0 [.ref 49, .ref 2, .ref 23, .int z] [] (ar, fi, (m1, m2, m3, m4, m5)) o := by
  intro q h hq
  unfold q_fr_burnFor at h
  refine zT_seg t_fr_burnFor_49_2_23 ?_
  obtain ⟨TT, hTT⟩ : ∃ T, T = zT X zFT (zEx 21 S_fr_passMinute zE0) zc_20 o := ⟨_, rfl⟩
  rw [← hTT]
  rw [hTT]
  refine zR2_hp ?_ ?_ (zlp_K k_fr_burnFor_3_49_2_23 h hq)
  · first | with_reducible rfl | exact hA4_fr_burnFor _
  · first | with_reducible rfl | exact hF5_fr_burnFor _
def O_fr_burnFor_49_2_31 (ar fi : Nat → Nat → Int32) (m1 : Nat) (m2 : Nat) (m3 : Nat) (m4 : Nat) (m5 : Nat) (t : T_fr_burnFor) : zO2 := match t with
  | (t0, t1, t2, t3, t4, t5, t6, t7) => (none, ((zua (zua (zua (zua (zua ar 4 t0) 5 t1) 34 t2) 50 t3) 51 t4), (zuf (zuf (zuf fi 2 7 t5) 2 9 t6) 2 10 t7), (m1, m2, m3, m4, m5)))
def M_fr_burnFor_3_49_2_31 (X : Nat × (Nat → Int32)) (E : zTE) (ar fi : Nat → Nat → Int32) (m1 : Nat) (m2 : Nat) (m3 : Nat) (m4 : Nat) (m5 : Nat) (z : Int32) (o : zO2) (s : U_fr_burnFor_3) : Prop := match s with
  | (l4, b4, b5, b34, b50, b51, c2_7, c2_9, c2_10) => zR2 X zFT E zc_20 3 [.ref 49, .ref 2, .ref 31, .int z, .int l4] [] ((zua (zua (zua (zua (zua ar 4 b4) 5 b5) 34 b34) 50 b50) 51 b51), (zuf (zuf (zuf fi 2 7 c2_7) 2 9 c2_9) 2 10 c2_10), (m1, m2, m3, m4, m5)) o
set_option maxRecDepth 1000000 in
theorem t3_fr_burnFor_49_2_31 {X : Nat × (Nat → Int32)} {ar fi : Nat → Nat → Int32} {m1 m2 m3 m4 m5 : Nat} {z : Int32} {l4 : Int32} {b4 : Nat → Int32} {b5 : Nat → Int32} {b34 : Nat → Int32} {b50 : Nat → Int32} {b51 : Nat → Int32} {c2_7 : Int32} {c2_9 : Int32} {c2_10 : Int32} {Q_fr_passMinute : (Nat → Int32) → (Nat → Int32) → (Nat → Int32) → (Nat → Int32) → (Nat → Int32) → (Nat → Int32) → (Nat → Int32) → (Nat → Int32) → (Nat → Int32) → (Nat → Int32) → (Nat → Int32) → (Nat → Int32) → (Nat → Int32) → (Nat → Int32) → (Nat → Int32) → Int32 → Int32 → Int32 → Int32 → Int32 → Int32 → Int32 → Option ((Nat → Int32) × (Nat → Int32) × (Nat → Int32) × (Nat → Int32) × (Nat → Int32) × Int32 × Int32 × Int32)} : zseg X zFT (zEx 21 (P_fr_passMinute Q_fr_passMinute) zE0) zc_20 (fun p => Nat.beq p 3) 400 3 [.ref 49, .ref 2, .ref 31, .int z, .int l4] [] ((zua (zua (zua (zua (zua ar 4 b4) 5 b5) 34 b34) 50 b50) 51 b51), (zuf (zuf (zuf fi 2 7 c2_7) 2 9 c2_9) 2 10 c2_10), (m1, m2, m3, m4, m5)) = (
  bif decide (z ≤ l4) then
   some (.inr (none, ((zua (zua (zua (zua (zua ar 4 b4) 5 b5) 34 b34) 50 b50) 51 b51), (zuf (zuf (zuf fi 2 7 c2_7) 2 9 c2_9) 2 10 c2_10), (m1, m2, m3, m4, m5))))
  else
   bif decide (9999 ≤ c2_9) then
    some (.inr (none, ((zua (zua (zua (zua (zua ar 4 b4) 5 b5) 34 b34) 50 b50) 51 b51), (zuf (zuf (zuf fi 2 7 c2_7) 2 9 c2_9) 2 10 c2_10), (m1, m2, m3, m4, m5))))
   else
    zl (Q_fr_passMinute (ar 3) b4 b5 (ar 6) (ar 7) (ar 8) (ar 32) (ar 33) b34 (ar 35) (ar 36) (ar 37) (ar 38) b50 b51 (fi 2 6) c2_7 (fi 2 8) c2_9 c2_10 (fi 31 8) (fi 31 9)) (fun v1 => zg v1.isSome (
    some (.inl (3, [.ref 49, .ref 2, .ref 31, .int z, .int (l4 + 1)], [], ((zua (zua (zua (zua (zua (zua (zua (zua (zua (zua ar 4 b4) 5 b5) 34 b34) 50 b50) 51 b51) 4 (((zgt v1).1))) 5 (((zgt v1).2.1))) 34 (((zgt v1).2.2.1))) 50 (((zgt v1).2.2.2.1))) 51 (((zgt v1).2.2.2.2.1))), (zuf (zuf (zuf (zuf (zuf (zuf fi 2 7 c2_7) 2 9 c2_9) 2 10 c2_10) 2 7 (((zgt v1).2.2.2.2.2.1))) 2 9 (((zgt v1).2.2.2.2.2.2.1))) 2 10 (((zgt v1).2.2.2.2.2.2.2))), (m1, m2, m3, m4, m5)))))) : Option ((Nat × List Value × List Value × zH2) ⊕ zO2)) := by with_unfolding_all rfl
set_option maxRecDepth 20000 in
theorem k_fr_burnFor_3_49_2_31 {X : Nat × (Nat → Int32)} {ar fi : Nat → Nat → Int32} {m1 m2 m3 m4 m5 : Nat} {z : Int32} {o : zO2} : ∀ (s : U_fr_burnFor_3) (q : U_fr_burnFor_3 ⊕ T_fr_burnFor), f_fr_burnFor_3 z (ar 3) (ar 6) (ar 7) (ar 8) (ar 32) (ar 33) (ar 35) (ar 36) (ar 37) (ar 38) (fi 2 6) (fi 2 8) (fi 31 8) (fi 31 9) s = some q → zq (M_fr_burnFor_3_49_2_31 X (zEx 21 S_fr_passMinute zE0) ar fi m1 m2 m3 m4 m5 z o) (fun t => O_fr_burnFor_49_2_31 ar fi m1 m2 m3 m4 m5 t = o) q → M_fr_burnFor_3_49_2_31 X (zEx 21 S_fr_passMinute zE0) ar fi m1 m2 m3 m4 m5 z o s := by
  intro s q h hq
  obtain ⟨l4, b4, b5, b34, b50, b51, c2_7, c2_9, c2_10⟩ := s
  have h : b_fr_burnFor_3 z (ar 3) (ar 6) (ar 7) (ar 8) (ar 32) (ar 33) (ar 35) (ar 36) (ar 37) (ar 38) (fi 2 6) (fi 2 8) (fi 31 8) (fi 31 9) l4 b4 b5 b34 b50 b51 c2_7 c2_9 c2_10 = some q := h
  unfold b_fr_burnFor_3 at h
  show zR2 X zFT (zEx 21 S_fr_passMinute zE0) zc_20 3 [.ref 49, .ref 2, .ref 31, .int z, .int l4] [] ((zua (zua (zua (zua (zua ar 4 b4) 5 b5) 34 b34) 50 b50) 51 b51), (zuf (zuf (zuf fi 2 7 c2_7) 2 9 c2_9) 2 10 c2_10), (m1, m2, m3, m4, m5)) o
  refine zT_seg t3_fr_burnFor_49_2_31 ?_
  obtain ⟨TT, hTT⟩ : ∃ T, T = zT X zFT (zEx 21 S_fr_passMinute zE0) zc_20 o := ⟨_, rfl⟩
  rw [← hTT]
  refine zb_el h (fun hb h => zU_t hTT hb ?_) (fun hb h => zU_f hTT hb ?_)
  · rw [hTT]
    have hz := zsi h hq
    refine (zO_mk ?_ ?_).trans hz
    · first | with_reducible rfl | exact hA6_fr_burnFor _ _ _ _ _ _
    · first | with_reducible rfl | exact hF1_fr_burnFor _ _ _ _
  · refine zb_el h (fun hb h => zU_t hTT hb ?_) (fun hb h => zU_f hTT hb ?_)
    · rw [hTT]
      have hz := zsi h hq
      refine (zO_mk ?_ ?_).trans hz
      · first | with_reducible rfl | exact hA6_fr_burnFor _ _ _ _ _ _
      · first | with_reducible rfl | exact hF1_fr_burnFor _ _ _ _
    · refine zbd_el h (fun v1 hv h => zU_c hTT hv ?_)
      rw [hTT]
      have hz := zsi h hq
      refine zR2_hp ?_ ?_ hz
      · first | with_reducible rfl | exact hA7_fr_burnFor _ _ _ _ _ _ _ _ _ _ _
      · first | with_reducible rfl | exact hF3_fr_burnFor _ _ _ _ _ _ _
set_option maxRecDepth 1000000 in
theorem t_fr_burnFor_49_2_31 {X : Nat × (Nat → Int32)} {ar fi : Nat → Nat → Int32} {m1 m2 m3 m4 m5 : Nat} {z : Int32} {Q_fr_passMinute : (Nat → Int32) → (Nat → Int32) → (Nat → Int32) → (Nat → Int32) → (Nat → Int32) → (Nat → Int32) → (Nat → Int32) → (Nat → Int32) → (Nat → Int32) → (Nat → Int32) → (Nat → Int32) → (Nat → Int32) → (Nat → Int32) → (Nat → Int32) → (Nat → Int32) → Int32 → Int32 → Int32 → Int32 → Int32 → Int32 → Int32 → Option ((Nat → Int32) × (Nat → Int32) × (Nat → Int32) × (Nat → Int32) × (Nat → Int32) × Int32 × Int32 × Int32)} : zseg X zFT (zEx 21 (P_fr_passMinute Q_fr_passMinute) zE0) zc_20 (fun p => Nat.beq p 3) 400 0 [.ref 49, .ref 2, .ref 31, .int z] [] (ar, fi, (m1, m2, m3, m4, m5)) = (
  some (.inl (3, [.ref 49, .ref 2, .ref 31, .int z, .int 0], [], (ar, fi, (m1, m2, m3, m4, m5)))) : Option ((Nat × List Value × List Value × zH2) ⊕ zO2)) := by with_unfolding_all rfl
set_option maxRecDepth 20000 in
theorem e_fr_burnFor_49_2_31 {X : Nat × (Nat → Int32)} {ar fi : Nat → Nat → Int32} {m1 m2 m3 m4 m5 : Nat} {z : Int32} {o : zO2} : ∀ (q : T_fr_burnFor), q_fr_burnFor z (ar 3) (ar 4) (ar 5) (ar 6) (ar 7) (ar 8) (ar 32) (ar 33) (ar 34) (ar 35) (ar 36) (ar 37) (ar 38) (ar 50) (ar 51) (fi 2 6) (fi 2 7) (fi 2 8) (fi 2 9) (fi 2 10) (fi 31 8) (fi 31 9) = some q → (fun t => O_fr_burnFor_49_2_31 ar fi m1 m2 m3 m4 m5 t = o) q → zR2 X zFT (zEx 21 S_fr_passMinute zE0) zc_20 0 [.ref 49, .ref 2, .ref 31, .int z] [] (ar, fi, (m1, m2, m3, m4, m5)) o := by
  intro q h hq
  unfold q_fr_burnFor at h
  refine zT_seg t_fr_burnFor_49_2_31 ?_
  obtain ⟨TT, hTT⟩ : ∃ T, T = zT X zFT (zEx 21 S_fr_passMinute zE0) zc_20 o := ⟨_, rfl⟩
  rw [← hTT]
  rw [hTT]
  refine zR2_hp ?_ ?_ (zlp_K k_fr_burnFor_3_49_2_31 h hq)
  · first | with_reducible rfl | exact hA8_fr_burnFor _
  · first | with_reducible rfl | exact hF5_fr_burnFor _
def O_fr_burnFor_49_16_23 (ar fi : Nat → Nat → Int32) (m1 : Nat) (m2 : Nat) (m3 : Nat) (m4 : Nat) (m5 : Nat) (t : T_fr_burnFor) : zO2 := match t with
  | (t0, t1, t2, t3, t4, t5, t6, t7) => (none, ((zua (zua (zua (zua (zua ar 18 t0) 19 t1) 26 t2) 50 t3) 51 t4), (zuf (zuf (zuf fi 16 7 t5) 16 9 t6) 16 10 t7), (m1, m2, m3, m4, m5)))
def M_fr_burnFor_3_49_16_23 (X : Nat × (Nat → Int32)) (E : zTE) (ar fi : Nat → Nat → Int32) (m1 : Nat) (m2 : Nat) (m3 : Nat) (m4 : Nat) (m5 : Nat) (z : Int32) (o : zO2) (s : U_fr_burnFor_3) : Prop := match s with
  | (l4, b18, b19, b26, b50, b51, c16_7, c16_9, c16_10) => zR2 X zFT E zc_20 3 [.ref 49, .ref 16, .ref 23, .int z, .int l4] [] ((zua (zua (zua (zua (zua ar 18 b18) 19 b19) 26 b26) 50 b50) 51 b51), (zuf (zuf (zuf fi 16 7 c16_7) 16 9 c16_9) 16 10 c16_10), (m1, m2, m3, m4, m5)) o
set_option maxRecDepth 1000000 in
theorem t3_fr_burnFor_49_16_23 {X : Nat × (Nat → Int32)} {ar fi : Nat → Nat → Int32} {m1 m2 m3 m4 m5 : Nat} {z : Int32} {l4 : Int32} {b18 : Nat → Int32} {b19 : Nat → Int32} {b26 : Nat → Int32} {b50 : Nat → Int32} {b51 : Nat → Int32} {c16_7 : Int32} {c16_9 : Int32} {c16_10 : Int32} {Q_fr_passMinute : (Nat → Int32) → (Nat → Int32) → (Nat → Int32) → (Nat → Int32) → (Nat → Int32) → (Nat → Int32) → (Nat → Int32) → (Nat → Int32) → (Nat → Int32) → (Nat → Int32) → (Nat → Int32) → (Nat → Int32) → (Nat → Int32) → (Nat → Int32) → (Nat → Int32) → Int32 → Int32 → Int32 → Int32 → Int32 → Int32 → Int32 → Option ((Nat → Int32) × (Nat → Int32) × (Nat → Int32) × (Nat → Int32) × (Nat → Int32) × Int32 × Int32 × Int32)} : zseg X zFT (zEx 21 (P_fr_passMinute Q_fr_passMinute) zE0) zc_20 (fun p => Nat.beq p 3) 400 3 [.ref 49, .ref 16, .ref 23, .int z, .int l4] [] ((zua (zua (zua (zua (zua ar 18 b18) 19 b19) 26 b26) 50 b50) 51 b51), (zuf (zuf (zuf fi 16 7 c16_7) 16 9 c16_9) 16 10 c16_10), (m1, m2, m3, m4, m5)) = (
  bif decide (z ≤ l4) then
   some (.inr (none, ((zua (zua (zua (zua (zua ar 18 b18) 19 b19) 26 b26) 50 b50) 51 b51), (zuf (zuf (zuf fi 16 7 c16_7) 16 9 c16_9) 16 10 c16_10), (m1, m2, m3, m4, m5))))
  else
   bif decide (9999 ≤ c16_9) then
    some (.inr (none, ((zua (zua (zua (zua (zua ar 18 b18) 19 b19) 26 b26) 50 b50) 51 b51), (zuf (zuf (zuf fi 16 7 c16_7) 16 9 c16_9) 16 10 c16_10), (m1, m2, m3, m4, m5))))
   else
    zl (Q_fr_passMinute (ar 17) b18 b19 (ar 20) (ar 21) (ar 22) (ar 24) (ar 25) b26 (ar 27) (ar 28) (ar 29) (ar 30) b50 b51 (fi 16 6) c16_7 (fi 16 8) c16_9 c16_10 (fi 23 8) (fi 23 9)) (fun v1 => zg v1.isSome (
    some (.inl (3, [.ref 49, .ref 16, .ref 23, .int z, .int (l4 + 1)], [], ((zua (zua (zua (zua (zua (zua (zua (zua (zua (zua ar 18 b18) 19 b19) 26 b26) 50 b50) 51 b51) 18 (((zgt v1).1))) 19 (((zgt v1).2.1))) 26 (((zgt v1).2.2.1))) 50 (((zgt v1).2.2.2.1))) 51 (((zgt v1).2.2.2.2.1))), (zuf (zuf (zuf (zuf (zuf (zuf fi 16 7 c16_7) 16 9 c16_9) 16 10 c16_10) 16 7 (((zgt v1).2.2.2.2.2.1))) 16 9 (((zgt v1).2.2.2.2.2.2.1))) 16 10 (((zgt v1).2.2.2.2.2.2.2))), (m1, m2, m3, m4, m5)))))) : Option ((Nat × List Value × List Value × zH2) ⊕ zO2)) := by with_unfolding_all rfl
set_option maxRecDepth 20000 in
theorem k_fr_burnFor_3_49_16_23 {X : Nat × (Nat → Int32)} {ar fi : Nat → Nat → Int32} {m1 m2 m3 m4 m5 : Nat} {z : Int32} {o : zO2} : ∀ (s : U_fr_burnFor_3) (q : U_fr_burnFor_3 ⊕ T_fr_burnFor), f_fr_burnFor_3 z (ar 17) (ar 20) (ar 21) (ar 22) (ar 24) (ar 25) (ar 27) (ar 28) (ar 29) (ar 30) (fi 16 6) (fi 16 8) (fi 23 8) (fi 23 9) s = some q → zq (M_fr_burnFor_3_49_16_23 X (zEx 21 S_fr_passMinute zE0) ar fi m1 m2 m3 m4 m5 z o) (fun t => O_fr_burnFor_49_16_23 ar fi m1 m2 m3 m4 m5 t = o) q → M_fr_burnFor_3_49_16_23 X (zEx 21 S_fr_passMinute zE0) ar fi m1 m2 m3 m4 m5 z o s := by
  intro s q h hq
  obtain ⟨l4, b18, b19, b26, b50, b51, c16_7, c16_9, c16_10⟩ := s
  have h : b_fr_burnFor_3 z (ar 17) (ar 20) (ar 21) (ar 22) (ar 24) (ar 25) (ar 27) (ar 28) (ar 29) (ar 30) (fi 16 6) (fi 16 8) (fi 23 8) (fi 23 9) l4 b18 b19 b26 b50 b51 c16_7 c16_9 c16_10 = some q := h
  unfold b_fr_burnFor_3 at h
  show zR2 X zFT (zEx 21 S_fr_passMinute zE0) zc_20 3 [.ref 49, .ref 16, .ref 23, .int z, .int l4] [] ((zua (zua (zua (zua (zua ar 18 b18) 19 b19) 26 b26) 50 b50) 51 b51), (zuf (zuf (zuf fi 16 7 c16_7) 16 9 c16_9) 16 10 c16_10), (m1, m2, m3, m4, m5)) o
  refine zT_seg t3_fr_burnFor_49_16_23 ?_
  obtain ⟨TT, hTT⟩ : ∃ T, T = zT X zFT (zEx 21 S_fr_passMinute zE0) zc_20 o := ⟨_, rfl⟩
  rw [← hTT]
  refine zb_el h (fun hb h => zU_t hTT hb ?_) (fun hb h => zU_f hTT hb ?_)
  · rw [hTT]
    have hz := zsi h hq
    refine (zO_mk ?_ ?_).trans hz
    · first | with_reducible rfl | exact hA9_fr_burnFor _ _ _ _ _ _
    · first | with_reducible rfl | exact hF10_fr_burnFor _ _ _ _
  · refine zb_el h (fun hb h => zU_t hTT hb ?_) (fun hb h => zU_f hTT hb ?_)
    · rw [hTT]
      have hz := zsi h hq
      refine (zO_mk ?_ ?_).trans hz
      · first | with_reducible rfl | exact hA9_fr_burnFor _ _ _ _ _ _
      · first | with_reducible rfl | exact hF10_fr_burnFor _ _ _ _
    · refine zbd_el h (fun v1 hv h => zU_c hTT hv ?_)
      rw [hTT]
      have hz := zsi h hq
      refine zR2_hp ?_ ?_ hz
      · first | with_reducible rfl | exact hA11_fr_burnFor _ _ _ _ _ _ _ _ _ _ _
      · first | with_reducible rfl | exact hF12_fr_burnFor _ _ _ _ _ _ _
set_option maxRecDepth 1000000 in
theorem t_fr_burnFor_49_16_23 {X : Nat × (Nat → Int32)} {ar fi : Nat → Nat → Int32} {m1 m2 m3 m4 m5 : Nat} {z : Int32} {Q_fr_passMinute : (Nat → Int32) → (Nat → Int32) → (Nat → Int32) → (Nat → Int32) → (Nat → Int32) → (Nat → Int32) → (Nat → Int32) → (Nat → Int32) → (Nat → Int32) → (Nat → Int32) → (Nat → Int32) → (Nat → Int32) → (Nat → Int32) → (Nat → Int32) → (Nat → Int32) → Int32 → Int32 → Int32 → Int32 → Int32 → Int32 → Int32 → Option ((Nat → Int32) × (Nat → Int32) × (Nat → Int32) × (Nat → Int32) × (Nat → Int32) × Int32 × Int32 × Int32)} : zseg X zFT (zEx 21 (P_fr_passMinute Q_fr_passMinute) zE0) zc_20 (fun p => Nat.beq p 3) 400 0 [.ref 49, .ref 16, .ref 23, .int z] [] (ar, fi, (m1, m2, m3, m4, m5)) = (
  some (.inl (3, [.ref 49, .ref 16, .ref 23, .int z, .int 0], [], (ar, fi, (m1, m2, m3, m4, m5)))) : Option ((Nat × List Value × List Value × zH2) ⊕ zO2)) := by with_unfolding_all rfl
set_option maxRecDepth 20000 in
theorem e_fr_burnFor_49_16_23 {X : Nat × (Nat → Int32)} {ar fi : Nat → Nat → Int32} {m1 m2 m3 m4 m5 : Nat} {z : Int32} {o : zO2} : ∀ (q : T_fr_burnFor), q_fr_burnFor z (ar 17) (ar 18) (ar 19) (ar 20) (ar 21) (ar 22) (ar 24) (ar 25) (ar 26) (ar 27) (ar 28) (ar 29) (ar 30) (ar 50) (ar 51) (fi 16 6) (fi 16 7) (fi 16 8) (fi 16 9) (fi 16 10) (fi 23 8) (fi 23 9) = some q → (fun t => O_fr_burnFor_49_16_23 ar fi m1 m2 m3 m4 m5 t = o) q → zR2 X zFT (zEx 21 S_fr_passMinute zE0) zc_20 0 [.ref 49, .ref 16, .ref 23, .int z] [] (ar, fi, (m1, m2, m3, m4, m5)) o := by
  intro q h hq
  unfold q_fr_burnFor at h
  refine zT_seg t_fr_burnFor_49_16_23 ?_
  obtain ⟨TT, hTT⟩ : ∃ T, T = zT X zFT (zEx 21 S_fr_passMinute zE0) zc_20 o := ⟨_, rfl⟩
  rw [← hTT]
  rw [hTT]
  refine zR2_hp ?_ ?_ (zlp_K k_fr_burnFor_3_49_16_23 h hq)
  · first | with_reducible rfl | exact hA13_fr_burnFor _
  · first | with_reducible rfl | exact hF14_fr_burnFor _
def O_fr_burnFor_49_16_31 (ar fi : Nat → Nat → Int32) (m1 : Nat) (m2 : Nat) (m3 : Nat) (m4 : Nat) (m5 : Nat) (t : T_fr_burnFor) : zO2 := match t with
  | (t0, t1, t2, t3, t4, t5, t6, t7) => (none, ((zua (zua (zua (zua (zua ar 18 t0) 19 t1) 34 t2) 50 t3) 51 t4), (zuf (zuf (zuf fi 16 7 t5) 16 9 t6) 16 10 t7), (m1, m2, m3, m4, m5)))
def M_fr_burnFor_3_49_16_31 (X : Nat × (Nat → Int32)) (E : zTE) (ar fi : Nat → Nat → Int32) (m1 : Nat) (m2 : Nat) (m3 : Nat) (m4 : Nat) (m5 : Nat) (z : Int32) (o : zO2) (s : U_fr_burnFor_3) : Prop := match s with
  | (l4, b18, b19, b34, b50, b51, c16_7, c16_9, c16_10) => zR2 X zFT E zc_20 3 [.ref 49, .ref 16, .ref 31, .int z, .int l4] [] ((zua (zua (zua (zua (zua ar 18 b18) 19 b19) 34 b34) 50 b50) 51 b51), (zuf (zuf (zuf fi 16 7 c16_7) 16 9 c16_9) 16 10 c16_10), (m1, m2, m3, m4, m5)) o
set_option maxRecDepth 1000000 in
theorem t3_fr_burnFor_49_16_31 {X : Nat × (Nat → Int32)} {ar fi : Nat → Nat → Int32} {m1 m2 m3 m4 m5 : Nat} {z : Int32} {l4 : Int32} {b18 : Nat → Int32} {b19 : Nat → Int32} {b34 : Nat → Int32} {b50 : Nat → Int32} {b51 : Nat → Int32} {c16_7 : Int32} {c16_9 : Int32} {c16_10 : Int32} {Q_fr_passMinute : (Nat → Int32) → (Nat → Int32) → (Nat → Int32) → (Nat → Int32) → (Nat → Int32) → (Nat → Int32) → (Nat → Int32) → (Nat → Int32) → (Nat → Int32) → (Nat → Int32) → (Nat → Int32) → (Nat → Int32) → (Nat → Int32) → (Nat → Int32) → (Nat → Int32) → Int32 → Int32 → Int32 → Int32 → Int32 → Int32 → Int32 → Option ((Nat → Int32) × (Nat → Int32) × (Nat → Int32) × (Nat → Int32) × (Nat → Int32) × Int32 × Int32 × Int32)} : zseg X zFT (zEx 21 (P_fr_passMinute Q_fr_passMinute) zE0) zc_20 (fun p => Nat.beq p 3) 400 3 [.ref 49, .ref 16, .ref 31, .int z, .int l4] [] ((zua (zua (zua (zua (zua ar 18 b18) 19 b19) 34 b34) 50 b50) 51 b51), (zuf (zuf (zuf fi 16 7 c16_7) 16 9 c16_9) 16 10 c16_10), (m1, m2, m3, m4, m5)) = (
  bif decide (z ≤ l4) then
   some (.inr (none, ((zua (zua (zua (zua (zua ar 18 b18) 19 b19) 34 b34) 50 b50) 51 b51), (zuf (zuf (zuf fi 16 7 c16_7) 16 9 c16_9) 16 10 c16_10), (m1, m2, m3, m4, m5))))
  else
   bif decide (9999 ≤ c16_9) then
    some (.inr (none, ((zua (zua (zua (zua (zua ar 18 b18) 19 b19) 34 b34) 50 b50) 51 b51), (zuf (zuf (zuf fi 16 7 c16_7) 16 9 c16_9) 16 10 c16_10), (m1, m2, m3, m4, m5))))
   else
    zl (Q_fr_passMinute (ar 17) b18 b19 (ar 20) (ar 21) (ar 22) (ar 32) (ar 33) b34 (ar 35) (ar 36) (ar 37) (ar 38) b50 b51 (fi 16 6) c16_7 (fi 16 8) c16_9 c16_10 (fi 31 8) (fi 31 9)) (fun v1 => zg v1.isSome (
    some (.inl (3, [.ref 49, .ref 16, .ref 31, .int z, .int (l4 + 1)], [], ((zua (zua (zua (zua (zua (zua (zua (zua (zua (zua ar 18 b18) 19 b19) 34 b34) 50 b50) 51 b51) 18 (((zgt v1).1))) 19 (((zgt v1).2.1))) 34 (((zgt v1).2.2.1))) 50 (((zgt v1).2.2.2.1))) 51 (((zgt v1).2.2.2.2.1))), (zuf (zuf (zuf (zuf (zuf (zuf fi 16 7 c16_7) 16 9 c16_9) 16 10 c16_10) 16 7 (((zgt v1).2.2.2.2.2.1))) 16 9 (((zgt v1).2.2.2.2.2.2.1))) 16 10 (((zgt v1).2.2.2.2.2.2.2))), (m1, m2, m3, m4, m5)))))) : Option ((Nat × List Value × List Value × zH2) ⊕ zO2)) := by with_unfolding_all rfl
set_option maxRecDepth 20000 in
theorem k_fr_burnFor_3_49_16_31 {X : Nat × (Nat → Int32)} {ar fi : Nat → Nat → Int32} {m1 m2 m3 m4 m5 : Nat} {z : Int32} {o : zO2} : ∀ (s : U_fr_burnFor_3) (q : U_fr_burnFor_3 ⊕ T_fr_burnFor), f_fr_burnFor_3 z (ar 17) (ar 20) (ar 21) (ar 22) (ar 32) (ar 33) (ar 35) (ar 36) (ar 37) (ar 38) (fi 16 6) (fi 16 8) (fi 31 8) (fi 31 9) s = some q → zq (M_fr_burnFor_3_49_16_31 X (zEx 21 S_fr_passMinute zE0) ar fi m1 m2 m3 m4 m5 z o) (fun t => O_fr_burnFor_49_16_31 ar fi m1 m2 m3 m4 m5 t = o) q → M_fr_burnFor_3_49_16_31 X (zEx 21 S_fr_passMinute zE0) ar fi m1 m2 m3 m4 m5 z o s := by
  intro s q h hq
  obtain ⟨l4, b18, b19, b34, b50, b51, c16_7, c16_9, c16_10⟩ := s
  have h : b_fr_burnFor_3 z (ar 17) (ar 20) (ar 21) (ar 22) (ar 32) (ar 33) (ar 35) (ar 36) (ar 37) (ar 38) (fi 16 6) (fi 16 8) (fi 31 8) (fi 31 9) l4 b18 b19 b34 b50 b51 c16_7 c16_9 c16_10 = some q := h
  unfold b_fr_burnFor_3 at h
  show zR2 X zFT (zEx 21 S_fr_passMinute zE0) zc_20 3 [.ref 49, .ref 16, .ref 31, .int z, .int l4] [] ((zua (zua (zua (zua (zua ar 18 b18) 19 b19) 34 b34) 50 b50) 51 b51), (zuf (zuf (zuf fi 16 7 c16_7) 16 9 c16_9) 16 10 c16_10), (m1, m2, m3, m4, m5)) o
  refine zT_seg t3_fr_burnFor_49_16_31 ?_
  obtain ⟨TT, hTT⟩ : ∃ T, T = zT X zFT (zEx 21 S_fr_passMinute zE0) zc_20 o := ⟨_, rfl⟩
  rw [← hTT]
  refine zb_el h (fun hb h => zU_t hTT hb ?_) (fun hb h => zU_f hTT hb ?_)
  · rw [hTT]
    have hz := zsi h hq
    refine (zO_mk ?_ ?_).trans hz
    · first | with_reducible rfl | exact hA15_fr_burnFor _ _ _ _ _ _
    · first | with_reducible rfl | exact hF10_fr_burnFor _ _ _ _
  · refine zb_el h (fun hb h => zU_t hTT hb ?_) (fun hb h => zU_f hTT hb ?_)
    · rw [hTT]
      have hz := zsi h hq
      refine (zO_mk ?_ ?_).trans hz
      · first | with_reducible rfl | exact hA15_fr_burnFor _ _ _ _ _ _
      · first | with_reducible rfl | exact hF10_fr_burnFor _ _ _ _
    · refine zbd_el h (fun v1 hv h => zU_c hTT hv ?_)
      rw [hTT]
      have hz := zsi h hq
      refine zR2_hp ?_ ?_ hz
      · first | with_reducible rfl | exact hA16_fr_burnFor _ _ _ _ _ _ _ _ _ _ _
      · first | with_reducible rfl | exact hF12_fr_burnFor _ _ _ _ _ _ _
set_option maxRecDepth 1000000 in
theorem t_fr_burnFor_49_16_31 {X : Nat × (Nat → Int32)} {ar fi : Nat → Nat → Int32} {m1 m2 m3 m4 m5 : Nat} {z : Int32} {Q_fr_passMinute : (Nat → Int32) → (Nat → Int32) → (Nat → Int32) → (Nat → Int32) → (Nat → Int32) → (Nat → Int32) → (Nat → Int32) → (Nat → Int32) → (Nat → Int32) → (Nat → Int32) → (Nat → Int32) → (Nat → Int32) → (Nat → Int32) → (Nat → Int32) → (Nat → Int32) → Int32 → Int32 → Int32 → Int32 → Int32 → Int32 → Int32 → Option ((Nat → Int32) × (Nat → Int32) × (Nat → Int32) × (Nat → Int32) × (Nat → Int32) × Int32 × Int32 × Int32)} : zseg X zFT (zEx 21 (P_fr_passMinute Q_fr_passMinute) zE0) zc_20 (fun p => Nat.beq p 3) 400 0 [.ref 49, .ref 16, .ref 31, .int z] [] (ar, fi, (m1, m2, m3, m4, m5)) = (
  some (.inl (3, [.ref 49, .ref 16, .ref 31, .int z, .int 0], [], (ar, fi, (m1, m2, m3, m4, m5)))) : Option ((Nat × List Value × List Value × zH2) ⊕ zO2)) := by with_unfolding_all rfl
set_option maxRecDepth 20000 in
theorem e_fr_burnFor_49_16_31 {X : Nat × (Nat → Int32)} {ar fi : Nat → Nat → Int32} {m1 m2 m3 m4 m5 : Nat} {z : Int32} {o : zO2} : ∀ (q : T_fr_burnFor), q_fr_burnFor z (ar 17) (ar 18) (ar 19) (ar 20) (ar 21) (ar 22) (ar 32) (ar 33) (ar 34) (ar 35) (ar 36) (ar 37) (ar 38) (ar 50) (ar 51) (fi 16 6) (fi 16 7) (fi 16 8) (fi 16 9) (fi 16 10) (fi 31 8) (fi 31 9) = some q → (fun t => O_fr_burnFor_49_16_31 ar fi m1 m2 m3 m4 m5 t = o) q → zR2 X zFT (zEx 21 S_fr_passMinute zE0) zc_20 0 [.ref 49, .ref 16, .ref 31, .int z] [] (ar, fi, (m1, m2, m3, m4, m5)) o := by
  intro q h hq
  unfold q_fr_burnFor at h
  refine zT_seg t_fr_burnFor_49_16_31 ?_
  obtain ⟨TT, hTT⟩ : ∃ T, T = zT X zFT (zEx 21 S_fr_passMinute zE0) zc_20 o := ⟨_, rfl⟩
  rw [← hTT]
  rw [hTT]
  refine zR2_hp ?_ ?_ (zlp_K k_fr_burnFor_3_49_16_31 h hq)
  · first | with_reducible rfl | exact hA17_fr_burnFor _
  · first | with_reducible rfl | exact hF14_fr_burnFor _
theorem ok_fr_burnFor (X : Nat × (Nat → Int32)) : zOkS X 20 S_fr_burnFor 7 := zOkS_new (zOkE_cons (ok_fr_passMinute X) (by decide) (zOkE_nil X 6)) (by
  intro args g o h
  obtain ⟨ar, fi, m1, m2, m3, m4, m5⟩ := g
  unfold S_fr_burnFor P_fr_burnFor at h
  split at h
  · refine zb_el h (fun hI0 k0 => ?_) (fun _ h10 => ?_)
    · try simp only [Bool.and_eq_true] at hI0
      obtain ⟨⟨j0, j1⟩, j2⟩ := hI0
      have e0 := Nat.eq_of_beq_eq_true j0
      subst e0
      have e1 := Nat.eq_of_beq_eq_true j1
      subst e1
      have e2 := Nat.eq_of_beq_eq_true j2
      subst e2
      exact zpe_el k0 (fun t ht ho => by obtain ⟨t0, t1, t2, t3, t4, t5, t6, t7⟩ := t; exact e_fr_burnFor_49_2_23 _ ht ho)
    · skip
      refine zb_el h10 (fun hI1 k1 => ?_) (fun _ h11 => ?_)
      · try simp only [Bool.and_eq_true] at hI1
        obtain ⟨⟨j0, j1⟩, j2⟩ := hI1
        have e0 := Nat.eq_of_beq_eq_true j0
        subst e0
        have e1 := Nat.eq_of_beq_eq_true j1
        subst e1
        have e2 := Nat.eq_of_beq_eq_true j2
        subst e2
        exact zpe_el k1 (fun t ht ho => by obtain ⟨t0, t1, t2, t3, t4, t5, t6, t7⟩ := t; exact e_fr_burnFor_49_2_31 _ ht ho)
      · skip
        refine zb_el h11 (fun hI2 k2 => ?_) (fun _ h12 => ?_)
        · try simp only [Bool.and_eq_true] at hI2
          obtain ⟨⟨j0, j1⟩, j2⟩ := hI2
          have e0 := Nat.eq_of_beq_eq_true j0
          subst e0
          have e1 := Nat.eq_of_beq_eq_true j1
          subst e1
          have e2 := Nat.eq_of_beq_eq_true j2
          subst e2
          exact zpe_el k2 (fun t ht ho => by obtain ⟨t0, t1, t2, t3, t4, t5, t6, t7⟩ := t; exact e_fr_burnFor_49_16_23 _ ht ho)
        · skip
          refine zb_el h12 (fun hI3 k3 => ?_) (fun _ h13 => ?_)
          · try simp only [Bool.and_eq_true] at hI3
            obtain ⟨⟨j0, j1⟩, j2⟩ := hI3
            have e0 := Nat.eq_of_beq_eq_true j0
            subst e0
            have e1 := Nat.eq_of_beq_eq_true j1
            subst e1
            have e2 := Nat.eq_of_beq_eq_true j2
            subst e2
            exact zpe_el k3 (fun t ht ho => by obtain ⟨t0, t1, t2, t3, t4, t5, t6, t7⟩ := t; exact e_fr_burnFor_49_16_31 _ ht ho)
          · cases h13
  · cases h)
