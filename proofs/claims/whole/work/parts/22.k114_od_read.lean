abbrev T_od_read : Type := Int32 × (Nat → Int32) × (Nat → Int32) × (Nat → Int32) × (Nat → Int32) × (Nat → Int32) × (Nat → Int32) × Int32 × Int32 × Int32 × Int32 × Int32 × Int32 × Int32
abbrev U_od_read_18 : Type := Int32 × Int32 × Int32 × (Nat → Int32) × (Nat → Int32) × (Nat → Int32) × (Nat → Int32) × (Nat → Int32) × (Nat → Int32) × Int32 × Int32 × Int32 × Int32 × Int32 × Int32
noncomputable def b_od_read_18 (a1 : Nat → Int32) (c47_1 : Int32) (l4 : Int32) (l5 : Int32) (l6 : Int32) (b17 : Nat → Int32) (b18 : Nat → Int32) (b19 : Nat → Int32) (b20 : Nat → Int32) (b21 : Nat → Int32) (b22 : Nat → Int32) (c16_6 : Int32) (c16_7 : Int32) (c16_8 : Int32) (c47_2 : Int32) (c47_3 : Int32) (c47_4 : Int32) : Option (U_od_read_18 ⊕ T_od_read) :=
  bif decide (16 < l6) then
   zl (w_tx_answerOr l4 c47_2 c47_3) (fun v5 =>
   some (.inr (v5, b17, b18, b19, b20, b21, b22, c16_6, c16_7, c16_8, c47_1, c47_2, c47_3, c47_4)))
  else
   bif decide (l5 = 0) then
    zl (w_tx_answerOr l4 c47_2 c47_3) (fun v6 =>
    some (.inr (v6, b17, b18, b19, b20, b21, b22, c16_6, c16_7, c16_8, c47_1, c47_2, c47_3, c47_4)))
   else
    zbd (q_od_readLine l6 a1 b17 b18 b19 b20 b21 b22 c16_6 c16_7 c16_8 c47_1 c47_2 c47_3 c47_4) (fun v7 =>
    zg (g_tx_sign ((v7.2.2.2.2.2.2.2.2.2.1)) ((v7.2.2.2.2.2.2.2.2.2.2.2)) c47_1 a1) (
    zl (w_tx_sign ((v7.2.2.2.2.2.2.2.2.2.1)) ((v7.2.2.2.2.2.2.2.2.2.2.2)) c47_1 a1) (fun v8 =>
    bif !decide (v8 = 59) then
     some (.inl (l4 + 1, 0, l6 + 1, ((v7.1)), ((v7.2.1)), ((v7.2.2.1)), ((v7.2.2.2.1)), ((v7.2.2.2.2.1)), ((v7.2.2.2.2.2.1)), (v7.2.2.2.2.2.2.1), (v7.2.2.2.2.2.2.2.1), (v7.2.2.2.2.2.2.2.2.1), (v7.2.2.2.2.2.2.2.2.2.1), (v7.2.2.2.2.2.2.2.2.2.2.1), (v7.2.2.2.2.2.2.2.2.2.2.2)))
    else
     zl (f0_tx_skip ((v7.2.2.2.2.2.2.2.2.2.2.2))) (fun v9 =>
     some (.inl (l4 + 1, 1, l6 + 1, ((v7.1)), ((v7.2.1)), ((v7.2.2.1)), ((v7.2.2.2.1)), ((v7.2.2.2.2.1)), ((v7.2.2.2.2.2.1)), (v7.2.2.2.2.2.2.1), (v7.2.2.2.2.2.2.2.1), (v7.2.2.2.2.2.2.2.2.1), (v7.2.2.2.2.2.2.2.2.2.1), (v7.2.2.2.2.2.2.2.2.2.2.1), v9))))))
noncomputable def f_od_read_18 (a1 : Nat → Int32) (c47_1 : Int32) : U_od_read_18 → Option (U_od_read_18 ⊕ T_od_read) := fun s => b_od_read_18 a1 c47_1 s.1 s.2.1 s.2.2.1 s.2.2.2.1 s.2.2.2.2.1 s.2.2.2.2.2.1 s.2.2.2.2.2.2.1 s.2.2.2.2.2.2.2.1 s.2.2.2.2.2.2.2.2.1 s.2.2.2.2.2.2.2.2.2.1 s.2.2.2.2.2.2.2.2.2.2.1 s.2.2.2.2.2.2.2.2.2.2.2.1 s.2.2.2.2.2.2.2.2.2.2.2.2.1 s.2.2.2.2.2.2.2.2.2.2.2.2.2.1 s.2.2.2.2.2.2.2.2.2.2.2.2.2.2
noncomputable def l_od_read_18 (a1 : Nat → Int32) (c47_1 : Int32) (l4 : Int32) (l5 : Int32) (l6 : Int32) (b17 : Nat → Int32) (b18 : Nat → Int32) (b19 : Nat → Int32) (b20 : Nat → Int32) (b21 : Nat → Int32) (b22 : Nat → Int32) (c16_6 : Int32) (c16_7 : Int32) (c16_8 : Int32) (c47_2 : Int32) (c47_3 : Int32) (c47_4 : Int32) : Option T_od_read := zlp (f_od_read_18 a1 c47_1) (l4, l5, l6, b17, b18, b19, b20, b21, b22, c16_6, c16_7, c16_8, c47_2, c47_3, c47_4)
noncomputable def q_od_read (y : Int32) (a1 : Nat → Int32) (a17 : Nat → Int32) (a18 : Nat → Int32) (a19 : Nat → Int32) (a20 : Nat → Int32) (a21 : Nat → Int32) (a22 : Nat → Int32) (f16_6 : Int32) (f16_7 : Int32) (f16_8 : Int32) : Option T_od_read :=
  zl (f0_tx_begin y) (fun v1 =>
  zl (f1_tx_begin y) (fun v2 =>
  zl (f2_tx_begin y) (fun v3 =>
  zl (f3_tx_begin y) (fun v4 =>
  l_od_read_18 a1 v1 0 1 0 a17 a18 a19 a20 a21 a22 (f16_6) (f16_7) (f16_8) v2 v3 v4))))
def P_od_read (Q : Int32 → (Nat → Int32) → (Nat → Int32) → (Nat → Int32) → (Nat → Int32) → (Nat → Int32) → (Nat → Int32) → (Nat → Int32) → Int32 → Int32 → Int32 → Option (Int32 × (Nat → Int32) × (Nat → Int32) × (Nat → Int32) × (Nat → Int32) × (Nat → Int32) × (Nat → Int32) × Int32 × Int32 × Int32 × Int32 × Int32 × Int32 × Int32)) : zSp := fun as g => match as with
  | [.ref a, .ref b, .int y, .ref c] => bif Nat.beq a 46 && Nat.beq b 1 && Nat.beq c 16 then zpe (Q y (g.1 1) (g.1 17) (g.1 18) (g.1 19) (g.1 20) (g.1 21) (g.1 22) (g.2.1 16 6) (g.2.1 16 7) (g.2.1 16 8)) (fun t => (some (.int (t.1)), ((zua (zua (zua (zua (zua (zua g.1 17 t.2.1) 18 t.2.2.1) 19 t.2.2.2.1) 20 t.2.2.2.2.1) 21 t.2.2.2.2.2.1) 22 t.2.2.2.2.2.2.1), (zuf (zuf (zuf (zuf (zuf (zuf (zuf g.2.1 16 6 t.2.2.2.2.2.2.2.1) 16 7 t.2.2.2.2.2.2.2.2.1) 16 8 t.2.2.2.2.2.2.2.2.2.1) 47 1 t.2.2.2.2.2.2.2.2.2.2.1) 47 2 t.2.2.2.2.2.2.2.2.2.2.2.1) 47 3 t.2.2.2.2.2.2.2.2.2.2.2.2.1) 47 4 t.2.2.2.2.2.2.2.2.2.2.2.2.2), (g.2.2.1, g.2.2.2.1, g.2.2.2.2.1, g.2.2.2.2.2.1, 1)))) else none
  | _ => none
noncomputable abbrev S_od_read : zSp := P_od_read q_od_read
theorem hF6_od_read (F : Nat → Nat → Int32) (w0 w1 w2 w3 : Int32) : (zuf (zuf (zuf (zuf F 47 1 w0) 47 2 w1) 47 3 w2) 47 4 w3) = (zuf (zuf (zuf (zuf (zuf (zuf (zuf F 16 6 (F 16 6)) 16 7 (F 16 7)) 16 8 (F 16 8)) 47 1 w0) 47 2 w1) 47 3 w2) 47 4 w3) := zufk_ix F [((47, 1), w0), ((47, 2), w1), ((47, 3), w2), ((47, 4), w3)] [((16, 6), none), ((16, 7), none), ((16, 8), none), ((47, 1), some 0), ((47, 2), some 1), ((47, 3), some 2), ((47, 4), some 3)] rfl
theorem hA5_od_read (F : Nat → Nat → Int32) : F = (zua (zua (zua (zua (zua (zua F 17 (F 17)) 18 (F 18)) 19 (F 19)) 20 (F 20)) 21 (F 21)) 22 (F 22)) := zuak_ix F [] [(17, none), (18, none), (19, none), (20, none), (21, none), (22, none)] rfl
theorem hF4_od_read (F : Nat → Nat → Int32) (w0 w1 w2 w3 w4 w5 w6 w7 w8 w9 w10 w11 w12 w13 : Int32) : (zuf (zuf (zuf (zuf (zuf (zuf (zuf (zuf (zuf (zuf (zuf (zuf (zuf (zuf F 16 6 w0) 16 7 w1) 16 8 w2) 47 1 w3) 47 2 w4) 47 3 w5) 47 4 w6) 16 6 w7) 16 7 w8) 16 8 w9) 47 2 w10) 47 3 w11) 47 4 w12) 47 4 w13) = (zuf (zuf (zuf (zuf (zuf (zuf (zuf F 16 6 w7) 16 7 w8) 16 8 w9) 47 1 w3) 47 2 w10) 47 3 w11) 47 4 w13) := zufk_ix F [((16, 6), w0), ((16, 7), w1), ((16, 8), w2), ((47, 1), w3), ((47, 2), w4), ((47, 3), w5), ((47, 4), w6), ((16, 6), w7), ((16, 7), w8), ((16, 8), w9), ((47, 2), w10), ((47, 3), w11), ((47, 4), w12), ((47, 4), w13)] [((16, 6), some 7), ((16, 7), some 8), ((16, 8), some 9), ((47, 1), some 3), ((47, 2), some 10), ((47, 3), some 11), ((47, 4), some 13)] rfl
theorem hF3_od_read (F : Nat → Nat → Int32) (w0 w1 w2 w3 w4 w5 w6 w7 w8 w9 w10 w11 w12 : Int32) : (zuf (zuf (zuf (zuf (zuf (zuf (zuf (zuf (zuf (zuf (zuf (zuf (zuf F 16 6 w0) 16 7 w1) 16 8 w2) 47 1 w3) 47 2 w4) 47 3 w5) 47 4 w6) 16 6 w7) 16 7 w8) 16 8 w9) 47 2 w10) 47 3 w11) 47 4 w12) = (zuf (zuf (zuf (zuf (zuf (zuf (zuf F 16 6 w7) 16 7 w8) 16 8 w9) 47 1 w3) 47 2 w10) 47 3 w11) 47 4 w12) := zufk_ix F [((16, 6), w0), ((16, 7), w1), ((16, 8), w2), ((47, 1), w3), ((47, 2), w4), ((47, 3), w5), ((47, 4), w6), ((16, 6), w7), ((16, 7), w8), ((16, 8), w9), ((47, 2), w10), ((47, 3), w11), ((47, 4), w12)] [((16, 6), some 7), ((16, 7), some 8), ((16, 8), some 9), ((47, 1), some 3), ((47, 2), some 10), ((47, 3), some 11), ((47, 4), some 12)] rfl
theorem hA2_od_read (F : Nat → Nat → Int32) (w0 w1 w2 w3 w4 w5 w6 w7 w8 w9 w10 w11 : Nat → Int32) : (zua (zua (zua (zua (zua (zua (zua (zua (zua (zua (zua (zua F 17 w0) 18 w1) 19 w2) 20 w3) 21 w4) 22 w5) 17 w6) 18 w7) 19 w8) 20 w9) 21 w10) 22 w11) = (zua (zua (zua (zua (zua (zua F 17 w6) 18 w7) 19 w8) 20 w9) 21 w10) 22 w11) := zuak_ix F [(17, w0), (18, w1), (19, w2), (20, w3), (21, w4), (22, w5), (17, w6), (18, w7), (19, w8), (20, w9), (21, w10), (22, w11)] [(17, some 6), (18, some 7), (19, some 8), (20, some 9), (21, some 10), (22, some 11)] rfl
theorem hF1_od_read (F : Nat → Nat → Int32) (w0 w1 w2 w3 w4 w5 w6 : Int32) : (zuf (zuf (zuf (zuf (zuf (zuf (zuf F 16 6 w0) 16 7 w1) 16 8 w2) 47 1 w3) 47 2 w4) 47 3 w5) 47 4 w6) = (zuf (zuf (zuf (zuf (zuf (zuf (zuf F 16 6 w0) 16 7 w1) 16 8 w2) 47 1 w3) 47 2 w4) 47 3 w5) 47 4 w6) := zufk_ix F [((16, 6), w0), ((16, 7), w1), ((16, 8), w2), ((47, 1), w3), ((47, 2), w4), ((47, 3), w5), ((47, 4), w6)] [((16, 6), some 0), ((16, 7), some 1), ((16, 8), some 2), ((47, 1), some 3), ((47, 2), some 4), ((47, 3), some 5), ((47, 4), some 6)] rfl
theorem hA0_od_read (F : Nat → Nat → Int32) (w0 w1 w2 w3 w4 w5 : Nat → Int32) : (zua (zua (zua (zua (zua (zua F 17 w0) 18 w1) 19 w2) 20 w3) 21 w4) 22 w5) = (zua (zua (zua (zua (zua (zua F 17 w0) 18 w1) 19 w2) 20 w3) 21 w4) 22 w5) := zuak_ix F [(17, w0), (18, w1), (19, w2), (20, w3), (21, w4), (22, w5)] [(17, some 0), (18, some 1), (19, some 2), (20, some 3), (21, some 4), (22, some 5)] rfl
def O_od_read (ar fi : Nat → Nat → Int32) (m1 : Nat) (m2 : Nat) (m3 : Nat) (m4 : Nat) (m5 : Nat) (t : T_od_read) : zO2 := match t with
  | (t0, t1, t2, t3, t4, t5, t6, t7, t8, t9, t10, t11, t12, t13) => (some (.int (t0)), ((zua (zua (zua (zua (zua (zua ar 17 t1) 18 t2) 19 t3) 20 t4) 21 t5) 22 t6), (zuf (zuf (zuf (zuf (zuf (zuf (zuf fi 16 6 t7) 16 7 t8) 16 8 t9) 47 1 t10) 47 2 t11) 47 3 t12) 47 4 t13), (m1, m2, m3, m4, 1)))
def M_od_read_18 (X : Nat × (Nat → Int32)) (E : zTE) (ar fi : Nat → Nat → Int32) (m1 : Nat) (m2 : Nat) (m3 : Nat) (m4 : Nat) (m5 : Nat) (y : Int32) (c47_1 : Int32) (o : zO2) (s : U_od_read_18) : Prop := match s with
  | (l4, l5, l6, b17, b18, b19, b20, b21, b22, c16_6, c16_7, c16_8, c47_2, c47_3, c47_4) => zR2 X zFT E zc_56 18 [.ref 46, .ref 1, .int y, .ref 16, .int l4, .int l5, .int l6] [] ((zua (zua (zua (zua (zua (zua ar 17 b17) 18 b18) 19 b19) 20 b20) 21 b21) 22 b22), (zuf (zuf (zuf (zuf (zuf (zuf (zuf fi 16 6 c16_6) 16 7 c16_7) 16 8 c16_8) 47 1 c47_1) 47 2 c47_2) 47 3 c47_3) 47 4 c47_4), (m1, m2, m3, m4, 1)) o
set_option maxRecDepth 1000000 in
theorem t18_od_read {X : Nat × (Nat → Int32)} {ar fi : Nat → Nat → Int32} {m1 m2 m3 m4 m5 : Nat} {y : Int32} {l4 : Int32} {l5 : Int32} {l6 : Int32} {b17 : Nat → Int32} {b18 : Nat → Int32} {b19 : Nat → Int32} {b20 : Nat → Int32} {b21 : Nat → Int32} {b22 : Nat → Int32} {c16_6 : Int32} {c16_7 : Int32} {c16_8 : Int32} {c47_1 : Int32} {c47_2 : Int32} {c47_3 : Int32} {c47_4 : Int32} {F0_tx_begin : Int32 → Int32} {F1_tx_begin : Int32 → Int32} {F2_tx_begin : Int32 → Int32} {F3_tx_begin : Int32 → Int32} {Q_od_readLine : Int32 → (Nat → Int32) → (Nat → Int32) → (Nat → Int32) → (Nat → Int32) → (Nat → Int32) → (Nat → Int32) → (Nat → Int32) → Int32 → Int32 → Int32 → Int32 → Int32 → Int32 → Int32 → Option ((Nat → Int32) × (Nat → Int32) × (Nat → Int32) × (Nat → Int32) × (Nat → Int32) × (Nat → Int32) × Int32 × Int32 × Int32 × Int32 × Int32 × Int32)} {G_tx_sign : Int32 → Int32 → Int32 → (Nat → Int32) → Bool} {W_tx_sign : Int32 → Int32 → Int32 → (Nat → Int32) → Int32} {F0_tx_skip : Int32 → Int32} {W_tx_answerOr : Int32 → Int32 → Int32 → Int32} : zseg X zFT (zEx 90 (P_tx_begin F0_tx_begin F1_tx_begin F2_tx_begin F3_tx_begin) (zEx 57 (P_od_readLine Q_od_readLine) (zEx 93 (P_tx_sign G_tx_sign W_tx_sign) (zEx 95 (P_tx_skip F0_tx_skip) (zEx 99 (P_tx_answerOr W_tx_answerOr) zE0))))) zc_56 (fun p => Nat.beq p 18) 400 18 [.ref 46, .ref 1, .int y, .ref 16, .int l4, .int l5, .int l6] [] ((zua (zua (zua (zua (zua (zua ar 17 b17) 18 b18) 19 b19) 20 b20) 21 b21) 22 b22), (zuf (zuf (zuf (zuf (zuf (zuf (zuf fi 16 6 c16_6) 16 7 c16_7) 16 8 c16_8) 47 1 c47_1) 47 2 c47_2) 47 3 c47_3) 47 4 c47_4), (m1, m2, m3, m4, 1)) = (
  bif decide (16 < l6) then
   zl (W_tx_answerOr l4 c47_2 c47_3) (fun v5 =>
   some (.inr (some (.int v5), ((zua (zua (zua (zua (zua (zua ar 17 b17) 18 b18) 19 b19) 20 b20) 21 b21) 22 b22), (zuf (zuf (zuf (zuf (zuf (zuf (zuf fi 16 6 c16_6) 16 7 c16_7) 16 8 c16_8) 47 1 c47_1) 47 2 c47_2) 47 3 c47_3) 47 4 c47_4), (m1, m2, m3, m4, 1)))))
  else
   bif decide (l5 = 0) then
    zl (W_tx_answerOr l4 c47_2 c47_3) (fun v6 =>
    some (.inr (some (.int v6), ((zua (zua (zua (zua (zua (zua ar 17 b17) 18 b18) 19 b19) 20 b20) 21 b21) 22 b22), (zuf (zuf (zuf (zuf (zuf (zuf (zuf fi 16 6 c16_6) 16 7 c16_7) 16 8 c16_8) 47 1 c47_1) 47 2 c47_2) 47 3 c47_3) 47 4 c47_4), (m1, m2, m3, m4, 1)))))
   else
    zl (Q_od_readLine l6 (ar 1) b17 b18 b19 b20 b21 b22 c16_6 c16_7 c16_8 c47_1 c47_2 c47_3 c47_4) (fun v7 => zg v7.isSome (
    zg (G_tx_sign (((zgt v7).2.2.2.2.2.2.2.2.2.1)) (((zgt v7).2.2.2.2.2.2.2.2.2.2.2)) c47_1 (ar 1)) (
    zl (W_tx_sign (((zgt v7).2.2.2.2.2.2.2.2.2.1)) (((zgt v7).2.2.2.2.2.2.2.2.2.2.2)) c47_1 (ar 1)) (fun v8 =>
    bif !decide (v8 = 59) then
     some (.inl (18, [.ref 46, .ref 1, .int y, .ref 16, .int (l4 + 1), .int 0, .int (l6 + 1)], [], ((zua (zua (zua (zua (zua (zua (zua (zua (zua (zua (zua (zua ar 17 b17) 18 b18) 19 b19) 20 b20) 21 b21) 22 b22) 17 (((zgt v7).1))) 18 (((zgt v7).2.1))) 19 (((zgt v7).2.2.1))) 20 (((zgt v7).2.2.2.1))) 21 (((zgt v7).2.2.2.2.1))) 22 (((zgt v7).2.2.2.2.2.1))), (zuf (zuf (zuf (zuf (zuf (zuf (zuf (zuf (zuf (zuf (zuf (zuf (zuf fi 16 6 c16_6) 16 7 c16_7) 16 8 c16_8) 47 1 c47_1) 47 2 c47_2) 47 3 c47_3) 47 4 c47_4) 16 6 (((zgt v7).2.2.2.2.2.2.1))) 16 7 (((zgt v7).2.2.2.2.2.2.2.1))) 16 8 (((zgt v7).2.2.2.2.2.2.2.2.1))) 47 2 (((zgt v7).2.2.2.2.2.2.2.2.2.1))) 47 3 (((zgt v7).2.2.2.2.2.2.2.2.2.2.1))) 47 4 (((zgt v7).2.2.2.2.2.2.2.2.2.2.2))), (m1, m2, m3, m4, 1))))
    else
     zl (F0_tx_skip (((zgt v7).2.2.2.2.2.2.2.2.2.2.2))) (fun v9 =>
     some (.inl (18, [.ref 46, .ref 1, .int y, .ref 16, .int (l4 + 1), .int 1, .int (l6 + 1)], [], ((zua (zua (zua (zua (zua (zua (zua (zua (zua (zua (zua (zua ar 17 b17) 18 b18) 19 b19) 20 b20) 21 b21) 22 b22) 17 (((zgt v7).1))) 18 (((zgt v7).2.1))) 19 (((zgt v7).2.2.1))) 20 (((zgt v7).2.2.2.1))) 21 (((zgt v7).2.2.2.2.1))) 22 (((zgt v7).2.2.2.2.2.1))), (zuf (zuf (zuf (zuf (zuf (zuf (zuf (zuf (zuf (zuf (zuf (zuf (zuf (zuf fi 16 6 c16_6) 16 7 c16_7) 16 8 c16_8) 47 1 c47_1) 47 2 c47_2) 47 3 c47_3) 47 4 c47_4) 16 6 (((zgt v7).2.2.2.2.2.2.1))) 16 7 (((zgt v7).2.2.2.2.2.2.2.1))) 16 8 (((zgt v7).2.2.2.2.2.2.2.2.1))) 47 2 (((zgt v7).2.2.2.2.2.2.2.2.2.1))) 47 3 (((zgt v7).2.2.2.2.2.2.2.2.2.2.1))) 47 4 (((zgt v7).2.2.2.2.2.2.2.2.2.2.2))) 47 4 v9), (m1, m2, m3, m4, 1))))))))) : Option ((Nat × List Value × List Value × zH2) ⊕ zO2)) := by with_unfolding_all rfl
set_option maxRecDepth 20000 in
theorem k_od_read_18 {X : Nat × (Nat → Int32)} {ar fi : Nat → Nat → Int32} {m1 m2 m3 m4 m5 : Nat} {y : Int32} {c47_1 : Int32} {o : zO2} : ∀ (s : U_od_read_18) (q : U_od_read_18 ⊕ T_od_read), f_od_read_18 (ar 1) c47_1 s = some q → zq (M_od_read_18 X (zEx 90 S_tx_begin (zEx 57 S_od_readLine (zEx 93 S_tx_sign (zEx 95 S_tx_skip (zEx 99 S_tx_answerOr zE0))))) ar fi m1 m2 m3 m4 m5 y c47_1 o) (fun t => O_od_read ar fi m1 m2 m3 m4 m5 t = o) q → M_od_read_18 X (zEx 90 S_tx_begin (zEx 57 S_od_readLine (zEx 93 S_tx_sign (zEx 95 S_tx_skip (zEx 99 S_tx_answerOr zE0))))) ar fi m1 m2 m3 m4 m5 y c47_1 o s := by
  intro s q h hq
  obtain ⟨l4, l5, l6, b17, b18, b19, b20, b21, b22, c16_6, c16_7, c16_8, c47_2, c47_3, c47_4⟩ := s
  have h : b_od_read_18 (ar 1) c47_1 l4 l5 l6 b17 b18 b19 b20 b21 b22 c16_6 c16_7 c16_8 c47_2 c47_3 c47_4 = some q := h
  unfold b_od_read_18 at h
  show zR2 X zFT (zEx 90 S_tx_begin (zEx 57 S_od_readLine (zEx 93 S_tx_sign (zEx 95 S_tx_skip (zEx 99 S_tx_answerOr zE0))))) zc_56 18 [.ref 46, .ref 1, .int y, .ref 16, .int l4, .int l5, .int l6] [] ((zua (zua (zua (zua (zua (zua ar 17 b17) 18 b18) 19 b19) 20 b20) 21 b21) 22 b22), (zuf (zuf (zuf (zuf (zuf (zuf (zuf fi 16 6 c16_6) 16 7 c16_7) 16 8 c16_8) 47 1 c47_1) 47 2 c47_2) 47 3 c47_3) 47 4 c47_4), (m1, m2, m3, m4, 1)) o
  refine zT_seg (t18_od_read (m5 := m5)) ?_
  obtain ⟨TT, hTT⟩ : ∃ T, T = zT X zFT (zEx 90 S_tx_begin (zEx 57 S_od_readLine (zEx 93 S_tx_sign (zEx 95 S_tx_skip (zEx 99 S_tx_answerOr zE0))))) zc_56 o := ⟨_, rfl⟩
  rw [← hTT]
  refine zb_el h (fun hb h => zU_t hTT hb ?_) (fun hb h => zU_f hTT hb ?_)
  · refine zl_el h (fun h => zU_l hTT ?_)
    rw [hTT]
    have hz := zsi h hq
    refine (zO_mk ?_ ?_).trans hz
    · first | with_reducible rfl | exact hA0_od_read _ _ _ _ _ _ _
    · first | with_reducible rfl | exact hF1_od_read _ _ _ _ _ _ _ _
  · refine zb_el h (fun hb h => zU_t hTT hb ?_) (fun hb h => zU_f hTT hb ?_)
    · refine zl_el h (fun h => zU_l hTT ?_)
      rw [hTT]
      have hz := zsi h hq
      refine (zO_mk ?_ ?_).trans hz
      · first | with_reducible rfl | exact hA0_od_read _ _ _ _ _ _ _
      · first | with_reducible rfl | exact hF1_od_read _ _ _ _ _ _ _ _
    · refine zbd_el h (fun v7 hv h => zU_c hTT hv ?_)
      refine zg_el h (fun hg h => zU_g hTT hg ?_)
      refine zl_el h (fun h => zU_l hTT ?_)
      refine zb_el h (fun hb h => zU_t hTT hb ?_) (fun hb h => zU_f hTT hb ?_)
      · rw [hTT]
        have hz := zsi h hq
        refine zR2_hp ?_ ?_ hz
        · first | with_reducible rfl | exact hA2_od_read _ _ _ _ _ _ _ _ _ _ _ _ _
        · first | with_reducible rfl | exact hF3_od_read _ _ _ _ _ _ _ _ _ _ _ _ _ _
      · refine zl_el h (fun h => zU_l hTT ?_)
        rw [hTT]
        have hz := zsi h hq
        refine zR2_hp ?_ ?_ hz
        · first | with_reducible rfl | exact hA2_od_read _ _ _ _ _ _ _ _ _ _ _ _ _
        · first | with_reducible rfl | exact hF4_od_read _ _ _ _ _ _ _ _ _ _ _ _ _ _ _
set_option maxRecDepth 1000000 in
theorem t_od_read {X : Nat × (Nat → Int32)} {ar fi : Nat → Nat → Int32} {m1 m2 m3 m4 m5 : Nat} {y : Int32} {F0_tx_begin : Int32 → Int32} {F1_tx_begin : Int32 → Int32} {F2_tx_begin : Int32 → Int32} {F3_tx_begin : Int32 → Int32} {Q_od_readLine : Int32 → (Nat → Int32) → (Nat → Int32) → (Nat → Int32) → (Nat → Int32) → (Nat → Int32) → (Nat → Int32) → (Nat → Int32) → Int32 → Int32 → Int32 → Int32 → Int32 → Int32 → Int32 → Option ((Nat → Int32) × (Nat → Int32) × (Nat → Int32) × (Nat → Int32) × (Nat → Int32) × (Nat → Int32) × Int32 × Int32 × Int32 × Int32 × Int32 × Int32)} {G_tx_sign : Int32 → Int32 → Int32 → (Nat → Int32) → Bool} {W_tx_sign : Int32 → Int32 → Int32 → (Nat → Int32) → Int32} {F0_tx_skip : Int32 → Int32} {W_tx_answerOr : Int32 → Int32 → Int32 → Int32} : zseg X zFT (zEx 90 (P_tx_begin F0_tx_begin F1_tx_begin F2_tx_begin F3_tx_begin) (zEx 57 (P_od_readLine Q_od_readLine) (zEx 93 (P_tx_sign G_tx_sign W_tx_sign) (zEx 95 (P_tx_skip F0_tx_skip) (zEx 99 (P_tx_answerOr W_tx_answerOr) zE0))))) zc_56 (fun p => Nat.beq p 18) 400 0 [.ref 46, .ref 1, .int y, .ref 16] [] (ar, fi, (m1, m2, m3, m4, m5)) = (
  zl (F0_tx_begin y) (fun v1 =>
  zl (F1_tx_begin y) (fun v2 =>
  zl (F2_tx_begin y) (fun v3 =>
  zl (F3_tx_begin y) (fun v4 =>
  some (.inl (18, [.ref 46, .ref 1, .int y, .ref 16, .int 0, .int 1, .int 0], [], (ar, (zuf (zuf (zuf (zuf fi 47 1 v1) 47 2 v2) 47 3 v3) 47 4 v4), (m1, m2, m3, m4, 1)))))))) : Option ((Nat × List Value × List Value × zH2) ⊕ zO2)) := by with_unfolding_all rfl
set_option maxRecDepth 20000 in
theorem e_od_read {X : Nat × (Nat → Int32)} {ar fi : Nat → Nat → Int32} {m1 m2 m3 m4 m5 : Nat} {y : Int32} {o : zO2} : ∀ (q : T_od_read), q_od_read y (ar 1) (ar 17) (ar 18) (ar 19) (ar 20) (ar 21) (ar 22) (fi 16 6) (fi 16 7) (fi 16 8) = some q → (fun t => O_od_read ar fi m1 m2 m3 m4 m5 t = o) q → zR2 X zFT (zEx 90 S_tx_begin (zEx 57 S_od_readLine (zEx 93 S_tx_sign (zEx 95 S_tx_skip (zEx 99 S_tx_answerOr zE0))))) zc_56 0 [.ref 46, .ref 1, .int y, .ref 16] [] (ar, fi, (m1, m2, m3, m4, m5)) o := by
  intro q h hq
  unfold q_od_read at h
  refine zT_seg t_od_read ?_
  obtain ⟨TT, hTT⟩ : ∃ T, T = zT X zFT (zEx 90 S_tx_begin (zEx 57 S_od_readLine (zEx 93 S_tx_sign (zEx 95 S_tx_skip (zEx 99 S_tx_answerOr zE0))))) zc_56 o := ⟨_, rfl⟩
  rw [← hTT]
  refine zl_el h (fun h => zU_l hTT ?_)
  refine zl_el h (fun h => zU_l hTT ?_)
  refine zl_el h (fun h => zU_l hTT ?_)
  refine zl_el h (fun h => zU_l hTT ?_)
  rw [hTT]
  refine zR2_hp ?_ ?_ (zlp_K (k_od_read_18 (m5 := m5)) h hq)
  · first | with_reducible rfl | exact hA5_od_read _
  · first | with_reducible rfl | exact hF6_od_read _ _ _ _ _
theorem ok_od_read (X : Nat × (Nat → Int32)) : zOkS X 56 S_od_read 7 := zOkS_new (zOkE_cons (ok_tx_begin X) (by decide) (zOkE_cons (ok_od_readLine X) (by decide) (zOkE_cons (ok_tx_sign X) (by decide) (zOkE_cons (ok_tx_skip X) (by decide) (zOkE_cons (ok_tx_answerOr X) (by decide) (zOkE_nil X 6)))))) (by
  intro args g o h
  obtain ⟨ar, fi, m1, m2, m3, m4, m5⟩ := g
  unfold S_od_read P_od_read at h
  split at h
  · refine zb_el h (fun hI0 k0 => ?_) (fun _ h10 => ?_)
    · try simp only [Bool.and_eq_true] at hI0
      obtain ⟨⟨j0, j1⟩, j2⟩ := hI0
      have e0 := Nat.eq_of_beq_eq_true j0
      subst e0
      have e1 := Nat.eq_of_beq_eq_true j1
      subst e1
      have e2 := Nat.eq_of_beq_eq_true j2
      subst e2
      exact zpe_el k0 (fun t ht ho => by obtain ⟨t0, t1, t2, t3, t4, t5, t6, t7, t8, t9, t10, t11, t12, t13⟩ := t; exact e_od_read _ ht ho)
    · cases h10
  · cases h)
