abbrev T_md_readsFactor : Type := Int32 × (Nat → Int32) × (Nat → Int32) × Int32 × Int32 × Int32 × Int32 × Int32 × Int32
abbrev U_md_readsFactor_0 : Type := (Nat → Int32) × Int32 × Int32 × Int32 × Int32
noncomputable def b_md_readsFactor_0 (a70 : Nat → Int32) (a71 : Nat → Int32) (f64_8 : Int32) (f64_10 : Int32) (f64_12 : Int32) (b72 : Nat → Int32) (c64_7 : Int32) (c64_9 : Int32) (c64_11 : Int32) (c64_13 : Int32) : Option (U_md_readsFactor_0 ⊕ T_md_readsFactor) :=
  zg (g_md_here (f64_8) c64_7 a70) (
  zl (w_md_here (f64_8) c64_7 a70) (fun v1 =>
  bif !decide (v1 = 91) then
   zg (g_md_isDigit (f64_8) c64_7 a70) (
   zl (w_md_isDigit (f64_8) c64_7 a70) (fun v2 =>
   bif decide (v2 = 0) then
    zg (g_md_here (f64_8) c64_7 a70) (
    zl (w_md_here (f64_8) c64_7 a70) (fun v3 =>
    zl (w_md_factOf v3) (fun v4 =>
    bif !decide (v4 = (-1)) then
     zg (g_md_notes 1 v4 (f64_12) a71) (
     zl (a0_md_notes 1 v4 (f64_12) a71) (fun v5 =>
     zl (f0_md_notes 1 v4 (f64_12) a71) (fun v6 =>
     some (.inr (1, v5, b72, c64_7 + 1, c64_9, f64_10, c64_11, v6, c64_13)))))
    else
     zl (w_md_wrongAt 1 c64_7) (fun v7 =>
     zl (f0_md_wrongAt 1 c64_7) (fun v8 =>
     zg (decide (v7 = 0) || decide (v7 = 1)) (
     some (.inr (v7, a71, b72, c64_7, v8, f64_10, c64_11, f64_12, c64_13))))))))
   else
    zbd (q_md_readsNumber a70 c64_7 (f64_8) c64_9) (fun v9 =>
    bif !decide ((v9.1) = 0) then
     zg (g_md_notes 0 ((v9.2.2.2)) (f64_12) a71) (
     zl (a0_md_notes 0 ((v9.2.2.2)) (f64_12) a71) (fun v10 =>
     zl (f0_md_notes 0 ((v9.2.2.2)) (f64_12) a71) (fun v11 =>
     some (.inr (1, v10, b72, (v9.2.1), (v9.2.2.1), (v9.2.2.2), c64_11, v11, c64_13)))))
    else
     some (.inr (0, a71, b72, (v9.2.1), (v9.2.2.1), (v9.2.2.2), c64_11, f64_12, c64_13)))))
  else
   zg (g_md_opens 14 c64_11 c64_13 c64_7 b72 c64_9) (
   zl (w_md_opens 14 c64_11 c64_13 c64_7 b72 c64_9) (fun v12 =>
   zl (a0_md_opens 14 c64_11 c64_13 c64_7 b72 c64_9) (fun v13 =>
   zl (f0_md_opens 14 c64_11 c64_13 c64_7 b72 c64_9) (fun v14 =>
   zl (f1_md_opens 14 c64_11 c64_13 c64_7 b72 c64_9) (fun v15 =>
   zl (f2_md_opens 14 c64_11 c64_13 c64_7 b72 c64_9) (fun v16 =>
   zl (f3_md_opens 14 c64_11 c64_13 c64_7 b72 c64_9) (fun v17 =>
   bif !decide (v12 = 0) then
    some (.inl (v13, v14, v15, v16, v17))
   else
    some (.inr (0, a71, v13, v14, v15, f64_10, v16, f64_12, v17)))))))))))
noncomputable def f_md_readsFactor_0 (a70 : Nat → Int32) (a71 : Nat → Int32) (f64_8 : Int32) (f64_10 : Int32) (f64_12 : Int32) : U_md_readsFactor_0 → Option (U_md_readsFactor_0 ⊕ T_md_readsFactor) := fun s => b_md_readsFactor_0 a70 a71 f64_8 f64_10 f64_12 s.1 s.2.1 s.2.2.1 s.2.2.2.1 s.2.2.2.2
noncomputable def l_md_readsFactor_0 (a70 : Nat → Int32) (a71 : Nat → Int32) (f64_8 : Int32) (f64_10 : Int32) (f64_12 : Int32) (b72 : Nat → Int32) (c64_7 : Int32) (c64_9 : Int32) (c64_11 : Int32) (c64_13 : Int32) : Option T_md_readsFactor := zlp (f_md_readsFactor_0 a70 a71 f64_8 f64_10 f64_12) (b72, c64_7, c64_9, c64_11, c64_13)
noncomputable def q_md_readsFactor (a70 : Nat → Int32) (a71 : Nat → Int32) (a72 : Nat → Int32) (f64_7 : Int32) (f64_8 : Int32) (f64_9 : Int32) (f64_10 : Int32) (f64_11 : Int32) (f64_12 : Int32) (f64_13 : Int32) : Option T_md_readsFactor :=
  l_md_readsFactor_0 a70 a71 f64_8 f64_10 f64_12 a72 (f64_7) (f64_9) (f64_11) (f64_13)
def P_md_readsFactor (Q : (Nat → Int32) → (Nat → Int32) → (Nat → Int32) → Int32 → Int32 → Int32 → Int32 → Int32 → Int32 → Int32 → Option (Int32 × (Nat → Int32) × (Nat → Int32) × Int32 × Int32 × Int32 × Int32 × Int32 × Int32)) : zSp := fun as g => match as with
  | [.ref a] => bif Nat.beq a 64 then zpe (Q (g.1 70) (g.1 71) (g.1 72) (g.2.1 64 7) (g.2.1 64 8) (g.2.1 64 9) (g.2.1 64 10) (g.2.1 64 11) (g.2.1 64 12) (g.2.1 64 13)) (fun t => (some (.int (t.1)), ((zua (zua g.1 71 t.2.1) 72 t.2.2.1), (zuf (zuf (zuf (zuf (zuf (zuf g.2.1 64 7 t.2.2.2.1) 64 9 t.2.2.2.2.1) 64 10 t.2.2.2.2.2.1) 64 11 t.2.2.2.2.2.2.1) 64 12 t.2.2.2.2.2.2.2.1) 64 13 t.2.2.2.2.2.2.2.2), g.2.2))) else none
  | _ => none
noncomputable abbrev S_md_readsFactor : zSp := P_md_readsFactor q_md_readsFactor
theorem hF11_md_readsFactor (F : Nat → Nat → Int32) : F = (zuf (zuf (zuf (zuf F 64 7 (F 64 7)) 64 9 (F 64 9)) 64 11 (F 64 11)) 64 13 (F 64 13)) := zufk_ix F [] [((64, 7), none), ((64, 9), none), ((64, 11), none), ((64, 13), none)] rfl
theorem hA10_md_readsFactor (F : Nat → Nat → Int32) : F = (zua F 72 (F 72)) := zuak_ix F [] [(72, none)] rfl
theorem hF9_md_readsFactor (F : Nat → Nat → Int32) (w0 w1 w2 w3 w4 w5 w6 w7 : Int32) : (zuf (zuf (zuf (zuf (zuf (zuf (zuf (zuf F 64 7 w0) 64 9 w1) 64 11 w2) 64 13 w3) 64 7 w4) 64 9 w5) 64 11 w6) 64 13 w7) = (zuf (zuf (zuf (zuf (zuf (zuf F 64 7 w4) 64 9 w5) 64 10 (F 64 10)) 64 11 w6) 64 12 (F 64 12)) 64 13 w7) := zufk_ix F [((64, 7), w0), ((64, 9), w1), ((64, 11), w2), ((64, 13), w3), ((64, 7), w4), ((64, 9), w5), ((64, 11), w6), ((64, 13), w7)] [((64, 7), some 4), ((64, 9), some 5), ((64, 10), none), ((64, 11), some 6), ((64, 12), none), ((64, 13), some 7)] rfl
theorem hA8_md_readsFactor (F : Nat → Nat → Int32) (w0 w1 : Nat → Int32) : (zua (zua F 72 w0) 72 w1) = (zua (zua F 71 (F 71)) 72 w1) := zuak_ix F [(72, w0), (72, w1)] [(71, none), (72, some 1)] rfl
theorem hF7_md_readsFactor (F : Nat → Nat → Int32) (w0 w1 w2 w3 w4 w5 w6 w7 : Int32) : (zuf (zuf (zuf (zuf (zuf (zuf (zuf (zuf F 64 7 w0) 64 9 w1) 64 11 w2) 64 13 w3) 64 7 w4) 64 9 w5) 64 11 w6) 64 13 w7) = (zuf (zuf (zuf (zuf F 64 7 w4) 64 9 w5) 64 11 w6) 64 13 w7) := zufk_ix F [((64, 7), w0), ((64, 9), w1), ((64, 11), w2), ((64, 13), w3), ((64, 7), w4), ((64, 9), w5), ((64, 11), w6), ((64, 13), w7)] [((64, 7), some 4), ((64, 9), some 5), ((64, 11), some 6), ((64, 13), some 7)] rfl
theorem hA6_md_readsFactor (F : Nat → Nat → Int32) (w0 w1 : Nat → Int32) : (zua (zua F 72 w0) 72 w1) = (zua F 72 w1) := zuak_ix F [(72, w0), (72, w1)] [(72, some 1)] rfl
theorem hF5_md_readsFactor (F : Nat → Nat → Int32) (w0 w1 w2 w3 w4 w5 w6 : Int32) : (zuf (zuf (zuf (zuf (zuf (zuf (zuf F 64 7 w0) 64 9 w1) 64 11 w2) 64 13 w3) 64 7 w4) 64 9 w5) 64 10 w6) = (zuf (zuf (zuf (zuf (zuf (zuf F 64 7 w4) 64 9 w5) 64 10 w6) 64 11 w2) 64 12 (F 64 12)) 64 13 w3) := zufk_ix F [((64, 7), w0), ((64, 9), w1), ((64, 11), w2), ((64, 13), w3), ((64, 7), w4), ((64, 9), w5), ((64, 10), w6)] [((64, 7), some 4), ((64, 9), some 5), ((64, 10), some 6), ((64, 11), some 2), ((64, 12), none), ((64, 13), some 3)] rfl
theorem hF4_md_readsFactor (F : Nat → Nat → Int32) (w0 w1 w2 w3 w4 w5 w6 w7 : Int32) : (zuf (zuf (zuf (zuf (zuf (zuf (zuf (zuf F 64 7 w0) 64 9 w1) 64 11 w2) 64 13 w3) 64 7 w4) 64 9 w5) 64 10 w6) 64 12 w7) = (zuf (zuf (zuf (zuf (zuf (zuf F 64 7 w4) 64 9 w5) 64 10 w6) 64 11 w2) 64 12 w7) 64 13 w3) := zufk_ix F [((64, 7), w0), ((64, 9), w1), ((64, 11), w2), ((64, 13), w3), ((64, 7), w4), ((64, 9), w5), ((64, 10), w6), ((64, 12), w7)] [((64, 7), some 4), ((64, 9), some 5), ((64, 10), some 6), ((64, 11), some 2), ((64, 12), some 7), ((64, 13), some 3)] rfl
theorem hF3_md_readsFactor (F : Nat → Nat → Int32) (w0 w1 w2 w3 w4 : Int32) : (zuf (zuf (zuf (zuf (zuf F 64 7 w0) 64 9 w1) 64 11 w2) 64 13 w3) 64 9 w4) = (zuf (zuf (zuf (zuf (zuf (zuf F 64 7 w0) 64 9 w4) 64 10 (F 64 10)) 64 11 w2) 64 12 (F 64 12)) 64 13 w3) := zufk_ix F [((64, 7), w0), ((64, 9), w1), ((64, 11), w2), ((64, 13), w3), ((64, 9), w4)] [((64, 7), some 0), ((64, 9), some 4), ((64, 10), none), ((64, 11), some 2), ((64, 12), none), ((64, 13), some 3)] rfl
theorem hA2_md_readsFactor (F : Nat → Nat → Int32) (w0 : Nat → Int32) : (zua F 72 w0) = (zua (zua F 71 (F 71)) 72 w0) := zuak_ix F [(72, w0)] [(71, none), (72, some 0)] rfl
theorem hF1_md_readsFactor (F : Nat → Nat → Int32) (w0 w1 w2 w3 w4 w5 : Int32) : (zuf (zuf (zuf (zuf (zuf (zuf F 64 7 w0) 64 9 w1) 64 11 w2) 64 13 w3) 64 12 w4) 64 7 w5) = (zuf (zuf (zuf (zuf (zuf (zuf F 64 7 w5) 64 9 w1) 64 10 (F 64 10)) 64 11 w2) 64 12 w4) 64 13 w3) := zufk_ix F [((64, 7), w0), ((64, 9), w1), ((64, 11), w2), ((64, 13), w3), ((64, 12), w4), ((64, 7), w5)] [((64, 7), some 5), ((64, 9), some 1), ((64, 10), none), ((64, 11), some 2), ((64, 12), some 4), ((64, 13), some 3)] rfl
theorem hA0_md_readsFactor (F : Nat → Nat → Int32) (w0 w1 : Nat → Int32) : (zua (zua F 72 w0) 71 w1) = (zua (zua F 71 w1) 72 w0) := zuak_ix F [(72, w0), (71, w1)] [(71, some 1), (72, some 0)] rfl
def O_md_readsFactor (ar fi : Nat → Nat → Int32) (m1 : Nat) (m2 : Nat) (m3 : Nat) (m4 : Nat) (m5 : Nat) (t : T_md_readsFactor) : zO2 := match t with
  | (t0, t1, t2, t3, t4, t5, t6, t7, t8) => (some (.int (t0)), ((zua (zua ar 71 t1) 72 t2), (zuf (zuf (zuf (zuf (zuf (zuf fi 64 7 t3) 64 9 t4) 64 10 t5) 64 11 t6) 64 12 t7) 64 13 t8), (m1, m2, m3, m4, m5)))
def M_md_readsFactor_0 (X : Nat × (Nat → Int32)) (E : zTE) (ar fi : Nat → Nat → Int32) (m1 : Nat) (m2 : Nat) (m3 : Nat) (m4 : Nat) (m5 : Nat) (o : zO2) (s : U_md_readsFactor_0) : Prop := match s with
  | (b72, c64_7, c64_9, c64_11, c64_13) => zR2 X zFT E zc_169 0 [.ref 64] [] ((zua ar 72 b72), (zuf (zuf (zuf (zuf fi 64 7 c64_7) 64 9 c64_9) 64 11 c64_11) 64 13 c64_13), (m1, m2, m3, m4, m5)) o
set_option maxRecDepth 1000000 in
theorem t0_md_readsFactor {X : Nat × (Nat → Int32)} {ar fi : Nat → Nat → Int32} {m1 m2 m3 m4 m5 : Nat} {b72 : Nat → Int32} {c64_7 : Int32} {c64_9 : Int32} {c64_11 : Int32} {c64_13 : Int32} {G_md_here : Int32 → Int32 → (Nat → Int32) → Bool} {W_md_here : Int32 → Int32 → (Nat → Int32) → Int32} {G_md_opens : Int32 → Int32 → Int32 → Int32 → (Nat → Int32) → Int32 → Bool} {W_md_opens : Int32 → Int32 → Int32 → Int32 → (Nat → Int32) → Int32 → Int32} {A0_md_opens : Int32 → Int32 → Int32 → Int32 → (Nat → Int32) → Int32 → Nat → Int32} {F0_md_opens : Int32 → Int32 → Int32 → Int32 → (Nat → Int32) → Int32 → Int32} {F1_md_opens : Int32 → Int32 → Int32 → Int32 → (Nat → Int32) → Int32 → Int32} {F2_md_opens : Int32 → Int32 → Int32 → Int32 → (Nat → Int32) → Int32 → Int32} {F3_md_opens : Int32 → Int32 → Int32 → Int32 → (Nat → Int32) → Int32 → Int32} {G_md_isDigit : Int32 → Int32 → (Nat → Int32) → Bool} {W_md_isDigit : Int32 → Int32 → (Nat → Int32) → Int32} {Q_md_readsNumber : (Nat → Int32) → Int32 → Int32 → Int32 → Option (Int32 × Int32 × Int32 × Int32)} {G_md_notes : Int32 → Int32 → Int32 → (Nat → Int32) → Bool} {A0_md_notes : Int32 → Int32 → Int32 → (Nat → Int32) → Nat → Int32} {F0_md_notes : Int32 → Int32 → Int32 → (Nat → Int32) → Int32} {W_md_factOf : Int32 → Int32} {W_md_wrongAt : Int32 → Int32 → Int32} {F0_md_wrongAt : Int32 → Int32 → Int32} : zseg X zFT (zEx 158 (P_md_here G_md_here W_md_here) (zEx 164 (P_md_opens G_md_opens W_md_opens A0_md_opens F0_md_opens F1_md_opens F2_md_opens F3_md_opens) (zEx 159 (P_md_isDigit G_md_isDigit W_md_isDigit) (zEx 162 (P_md_readsNumber Q_md_readsNumber) (zEx 163 (P_md_notes G_md_notes A0_md_notes F0_md_notes) (zEx 166 (P_md_factOf W_md_factOf) (zEx 160 (P_md_wrongAt W_md_wrongAt F0_md_wrongAt) zE0))))))) zc_169 (fun p => Nat.beq p 0) 400 0 [.ref 64] [] ((zua ar 72 b72), (zuf (zuf (zuf (zuf fi 64 7 c64_7) 64 9 c64_9) 64 11 c64_11) 64 13 c64_13), (m1, m2, m3, m4, m5)) = (
  zg (G_md_here (fi 64 8) c64_7 (ar 70)) (
  zl (W_md_here (fi 64 8) c64_7 (ar 70)) (fun v1 =>
  bif !decide (v1 = 91) then
   zg (G_md_isDigit (fi 64 8) c64_7 (ar 70)) (
   zl (W_md_isDigit (fi 64 8) c64_7 (ar 70)) (fun v2 =>
   bif decide (v2 = 0) then
    zg (G_md_here (fi 64 8) c64_7 (ar 70)) (
    zl (W_md_here (fi 64 8) c64_7 (ar 70)) (fun v3 =>
    zl (W_md_factOf v3) (fun v4 =>
    bif !decide (v4 = (-1)) then
     zg (G_md_notes 1 v4 (fi 64 12) (ar 71)) (
     zl (A0_md_notes 1 v4 (fi 64 12) (ar 71)) (fun v5 =>
     zl (F0_md_notes 1 v4 (fi 64 12) (ar 71)) (fun v6 =>
     some (.inr (some (.int 1), ((zua (zua ar 72 b72) 71 v5), (zuf (zuf (zuf (zuf (zuf (zuf fi 64 7 c64_7) 64 9 c64_9) 64 11 c64_11) 64 13 c64_13) 64 12 v6) 64 7 (c64_7 + 1)), (m1, m2, m3, m4, m5)))))))
    else
     zl (W_md_wrongAt 1 c64_7) (fun v7 =>
     zl (F0_md_wrongAt 1 c64_7) (fun v8 =>
     zg (Nat.beq 1 0 || (decide (v7 = 0) || decide (v7 = 1))) (
     some (.inr (some (.int v7), ((zua ar 72 b72), (zuf (zuf (zuf (zuf (zuf fi 64 7 c64_7) 64 9 c64_9) 64 11 c64_11) 64 13 c64_13) 64 9 v8), (m1, m2, m3, m4, m5))))))))))
   else
    zl (Q_md_readsNumber (ar 70) c64_7 (fi 64 8) c64_9) (fun v9 => zg v9.isSome (
    bif !decide (((zgt v9).1) = 0) then
     zg (G_md_notes 0 (((zgt v9).2.2.2)) (fi 64 12) (ar 71)) (
     zl (A0_md_notes 0 (((zgt v9).2.2.2)) (fi 64 12) (ar 71)) (fun v10 =>
     zl (F0_md_notes 0 (((zgt v9).2.2.2)) (fi 64 12) (ar 71)) (fun v11 =>
     some (.inr (some (.int 1), ((zua (zua ar 72 b72) 71 v10), (zuf (zuf (zuf (zuf (zuf (zuf (zuf (zuf fi 64 7 c64_7) 64 9 c64_9) 64 11 c64_11) 64 13 c64_13) 64 7 (((zgt v9).2.1))) 64 9 (((zgt v9).2.2.1))) 64 10 (((zgt v9).2.2.2))) 64 12 v11), (m1, m2, m3, m4, m5)))))))
    else
     some (.inr (some (.int 0), ((zua ar 72 b72), (zuf (zuf (zuf (zuf (zuf (zuf (zuf fi 64 7 c64_7) 64 9 c64_9) 64 11 c64_11) 64 13 c64_13) 64 7 (((zgt v9).2.1))) 64 9 (((zgt v9).2.2.1))) 64 10 (((zgt v9).2.2.2))), (m1, m2, m3, m4, m5))))))))
  else
   zg (G_md_opens 14 c64_11 c64_13 c64_7 b72 c64_9) (
   zl (W_md_opens 14 c64_11 c64_13 c64_7 b72 c64_9) (fun v12 =>
   zl (A0_md_opens 14 c64_11 c64_13 c64_7 b72 c64_9) (fun v13 =>
   zl (F0_md_opens 14 c64_11 c64_13 c64_7 b72 c64_9) (fun v14 =>
   zl (F1_md_opens 14 c64_11 c64_13 c64_7 b72 c64_9) (fun v15 =>
   zl (F2_md_opens 14 c64_11 c64_13 c64_7 b72 c64_9) (fun v16 =>
   zl (F3_md_opens 14 c64_11 c64_13 c64_7 b72 c64_9) (fun v17 =>
   bif !decide (v12 = 0) then
    some (.inl (0, [.ref 64], [], ((zua (zua ar 72 b72) 72 v13), (zuf (zuf (zuf (zuf (zuf (zuf (zuf (zuf fi 64 7 c64_7) 64 9 c64_9) 64 11 c64_11) 64 13 c64_13) 64 7 v14) 64 9 v15) 64 11 v16) 64 13 v17), (m1, m2, m3, m4, m5))))
   else
    some (.inr (some (.int 0), ((zua (zua ar 72 b72) 72 v13), (zuf (zuf (zuf (zuf (zuf (zuf (zuf (zuf fi 64 7 c64_7) 64 9 c64_9) 64 11 c64_11) 64 13 c64_13) 64 7 v14) 64 9 v15) 64 11 v16) 64 13 v17), (m1, m2, m3, m4, m5))))))))))))) : Option ((Nat × List Value × List Value × zH2) ⊕ zO2)) := by with_unfolding_all rfl
set_option maxRecDepth 20000 in
theorem k_md_readsFactor_0 {X : Nat × (Nat → Int32)} {ar fi : Nat → Nat → Int32} {m1 m2 m3 m4 m5 : Nat} {o : zO2} : ∀ (s : U_md_readsFactor_0) (q : U_md_readsFactor_0 ⊕ T_md_readsFactor), f_md_readsFactor_0 (ar 70) (ar 71) (fi 64 8) (fi 64 10) (fi 64 12) s = some q → zq (M_md_readsFactor_0 X (zEx 158 S_md_here (zEx 164 S_md_opens (zEx 159 S_md_isDigit (zEx 162 S_md_readsNumber (zEx 163 S_md_notes (zEx 166 S_md_factOf (zEx 160 S_md_wrongAt zE0))))))) ar fi m1 m2 m3 m4 m5 o) (fun t => O_md_readsFactor ar fi m1 m2 m3 m4 m5 t = o) q → M_md_readsFactor_0 X (zEx 158 S_md_here (zEx 164 S_md_opens (zEx 159 S_md_isDigit (zEx 162 S_md_readsNumber (zEx 163 S_md_notes (zEx 166 S_md_factOf (zEx 160 S_md_wrongAt zE0))))))) ar fi m1 m2 m3 m4 m5 o s := by
  intro s q h hq
  obtain ⟨b72, c64_7, c64_9, c64_11, c64_13⟩ := s
  have h : b_md_readsFactor_0 (ar 70) (ar 71) (fi 64 8) (fi 64 10) (fi 64 12) b72 c64_7 c64_9 c64_11 c64_13 = some q := h
  unfold b_md_readsFactor_0 at h
  show zR2 X zFT (zEx 158 S_md_here (zEx 164 S_md_opens (zEx 159 S_md_isDigit (zEx 162 S_md_readsNumber (zEx 163 S_md_notes (zEx 166 S_md_factOf (zEx 160 S_md_wrongAt zE0))))))) zc_169 0 [.ref 64] [] ((zua ar 72 b72), (zuf (zuf (zuf (zuf fi 64 7 c64_7) 64 9 c64_9) 64 11 c64_11) 64 13 c64_13), (m1, m2, m3, m4, m5)) o
  refine zT_seg t0_md_readsFactor ?_
  obtain ⟨TT, hTT⟩ : ∃ T, T = zT X zFT (zEx 158 S_md_here (zEx 164 S_md_opens (zEx 159 S_md_isDigit (zEx 162 S_md_readsNumber (zEx 163 S_md_notes (zEx 166 S_md_factOf (zEx 160 S_md_wrongAt zE0))))))) zc_169 o := ⟨_, rfl⟩
  rw [← hTT]
  refine zg_el h (fun hg h => zU_g hTT hg ?_)
  refine zl_el h (fun h => zU_l hTT ?_)
  refine zb_el h (fun hb h => zU_t hTT hb ?_) (fun hb h => zU_f hTT hb ?_)
  · refine zg_el h (fun hg h => zU_g hTT hg ?_)
    refine zl_el h (fun h => zU_l hTT ?_)
    refine zb_el h (fun hb h => zU_t hTT hb ?_) (fun hb h => zU_f hTT hb ?_)
    · refine zg_el h (fun hg h => zU_g hTT hg ?_)
      refine zl_el h (fun h => zU_l hTT ?_)
      refine zl_el h (fun h => zU_l hTT ?_)
      refine zb_el h (fun hb h => zU_t hTT hb ?_) (fun hb h => zU_f hTT hb ?_)
      · refine zg_el h (fun hg h => zU_g hTT hg ?_)
        refine zl_el h (fun h => zU_l hTT ?_)
        refine zl_el h (fun h => zU_l hTT ?_)
        rw [hTT]
        have hz := zsi h hq
        refine (zO_mk ?_ ?_).trans hz
        · first | with_reducible rfl | exact hA0_md_readsFactor _ _ _
        · first | with_reducible rfl | exact hF1_md_readsFactor _ _ _ _ _ _ _
      · refine zl_el h (fun h => zU_l hTT ?_)
        refine zl_el h (fun h => zU_l hTT ?_)
        refine zg_el h (fun hg h => zU_gr hTT hg ?_)
        rw [hTT]
        have hz := zsi h hq
        refine (zO_mk ?_ ?_).trans hz
        · first | with_reducible rfl | exact hA2_md_readsFactor _ _
        · first | with_reducible rfl | exact hF3_md_readsFactor _ _ _ _ _ _
    · refine zbd_el h (fun v9 hv h => zU_c hTT hv ?_)
      refine zb_el h (fun hb h => zU_t hTT hb ?_) (fun hb h => zU_f hTT hb ?_)
      · refine zg_el h (fun hg h => zU_g hTT hg ?_)
        refine zl_el h (fun h => zU_l hTT ?_)
        refine zl_el h (fun h => zU_l hTT ?_)
        rw [hTT]
        have hz := zsi h hq
        refine (zO_mk ?_ ?_).trans hz
        · first | with_reducible rfl | exact hA0_md_readsFactor _ _ _
        · first | with_reducible rfl | exact hF4_md_readsFactor _ _ _ _ _ _ _ _ _
      · rw [hTT]
        have hz := zsi h hq
        refine (zO_mk ?_ ?_).trans hz
        · first | with_reducible rfl | exact hA2_md_readsFactor _ _
        · first | with_reducible rfl | exact hF5_md_readsFactor _ _ _ _ _ _ _ _
  · refine zg_el h (fun hg h => zU_g hTT hg ?_)
    refine zl_el h (fun h => zU_l hTT ?_)
    refine zl_el h (fun h => zU_l hTT ?_)
    refine zl_el h (fun h => zU_l hTT ?_)
    refine zl_el h (fun h => zU_l hTT ?_)
    refine zl_el h (fun h => zU_l hTT ?_)
    refine zl_el h (fun h => zU_l hTT ?_)
    refine zb_el h (fun hb h => zU_t hTT hb ?_) (fun hb h => zU_f hTT hb ?_)
    · rw [hTT]
      have hz := zsi h hq
      refine zR2_hp ?_ ?_ hz
      · first | with_reducible rfl | exact hA6_md_readsFactor _ _ _
      · first | with_reducible rfl | exact hF7_md_readsFactor _ _ _ _ _ _ _ _ _
    · rw [hTT]
      have hz := zsi h hq
      refine (zO_mk ?_ ?_).trans hz
      · first | with_reducible rfl | exact hA8_md_readsFactor _ _ _
      · first | with_reducible rfl | exact hF9_md_readsFactor _ _ _ _ _ _ _ _ _
set_option maxRecDepth 20000 in
theorem e_md_readsFactor {X : Nat × (Nat → Int32)} {ar fi : Nat → Nat → Int32} {m1 m2 m3 m4 m5 : Nat} {o : zO2} : ∀ (q : T_md_readsFactor), q_md_readsFactor (ar 70) (ar 71) (ar 72) (fi 64 7) (fi 64 8) (fi 64 9) (fi 64 10) (fi 64 11) (fi 64 12) (fi 64 13) = some q → (fun t => O_md_readsFactor ar fi m1 m2 m3 m4 m5 t = o) q → zR2 X zFT (zEx 158 S_md_here (zEx 164 S_md_opens (zEx 159 S_md_isDigit (zEx 162 S_md_readsNumber (zEx 163 S_md_notes (zEx 166 S_md_factOf (zEx 160 S_md_wrongAt zE0))))))) zc_169 0 [.ref 64] [] (ar, fi, (m1, m2, m3, m4, m5)) o := by
  intro q h hq
  unfold q_md_readsFactor at h
  refine zR2_hp ?_ ?_ (zlp_K k_md_readsFactor_0 h hq)
  · first | with_reducible rfl | exact hA10_md_readsFactor _
  · first | with_reducible rfl | exact hF11_md_readsFactor _
theorem ok_md_readsFactor (X : Nat × (Nat → Int32)) : zOkS X 169 S_md_readsFactor 4 := zOkS_new (zOkE_cons (ok_md_here X) (by decide) (zOkE_cons (ok_md_opens X) (by decide) (zOkE_cons (ok_md_isDigit X) (by decide) (zOkE_cons (ok_md_readsNumber X) (by decide) (zOkE_cons (ok_md_notes X) (by decide) (zOkE_cons (ok_md_factOf X) (by decide) (zOkE_cons (ok_md_wrongAt X) (by decide) (zOkE_nil X 3)))))))) (by
  intro args g o h
  obtain ⟨ar, fi, m1, m2, m3, m4, m5⟩ := g
  unfold S_md_readsFactor P_md_readsFactor at h
  split at h
  · refine zb_el h (fun hI0 k0 => ?_) (fun _ h10 => ?_)
    · try simp only [Bool.and_eq_true] at hI0
      have j0 := hI0
      have e0 := Nat.eq_of_beq_eq_true j0
      subst e0
      exact zpe_el k0 (fun t ht ho => by obtain ⟨t0, t1, t2, t3, t4, t5, t6, t7, t8⟩ := t; exact e_md_readsFactor _ ht ho)
    · cases h10
  · cases h)
