abbrev T_md_readsSum : Type := Int32 × (Nat → Int32) × (Nat → Int32) × Int32 × Int32 × Int32 × Int32 × Int32 × Int32
abbrev U_md_readsSum_14 : Type := (Nat → Int32) × (Nat → Int32) × Int32 × Int32 × Int32 × Int32 × Int32 × Int32
noncomputable def b_md_readsSum_14 (a70 : Nat → Int32) (f64_8 : Int32) (l1 : Int32) (b71 : Nat → Int32) (b72 : Nat → Int32) (c64_7 : Int32) (c64_9 : Int32) (c64_10 : Int32) (c64_11 : Int32) (c64_12 : Int32) (c64_13 : Int32) : Option (U_md_readsSum_14 ⊕ T_md_readsSum) :=
  zg (g_md_here (f64_8) c64_7 a70) (
  zl (w_md_here (f64_8) c64_7 a70) (fun v2 =>
  zl (w_md_sumSign v2) (fun v3 =>
  bif decide (v3 = (-1)) then
   zg (g_md_here (f64_8) c64_7 a70) (
   zl (w_md_here (f64_8) c64_7 a70) (fun v4 =>
   bif !decide (v4 = 93) then
    zbd (q_md_hasOpenSum l1 b72 c64_13) (fun v5 =>
    bif decide (v5 = 0) then
     zbd (q_md_closesSums 1 b71 b72 c64_12 c64_13) (fun v6 =>
     some (.inr (1, ((v6.1)), b72, c64_7, c64_9, c64_10, c64_11, (v6.2.1), (v6.2.2))))
    else
     zl (w_md_wrongAt 1 c64_7) (fun v7 =>
     zl (f0_md_wrongAt 1 c64_7) (fun v8 =>
     zg (decide (v7 = 0) || decide (v7 = 1)) (
     some (.inr (v7, b71, b72, c64_7, v8, c64_10, c64_11, c64_12, c64_13))))))
   else
    zbd (q_md_hasOpenSum l1 b72 c64_13) (fun v9 =>
    bif decide (v9 = 0) then
     zbd (q_md_hasOpenSum l1 b72 c64_13) (fun v10 =>
     bif decide (v10 = 0) then
      zbd (q_md_closesSums 1 b71 b72 c64_12 c64_13) (fun v11 =>
      some (.inr (1, ((v11.1)), b72, c64_7, c64_9, c64_10, c64_11, (v11.2.1), (v11.2.2))))
     else
      zl (w_md_wrongAt 1 c64_7) (fun v12 =>
      zl (f0_md_wrongAt 1 c64_7) (fun v13 =>
      zg (decide (v12 = 0) || decide (v12 = 1)) (
      some (.inr (v12, b71, b72, c64_7, v13, c64_10, c64_11, c64_12, c64_13))))))
    else
     zbd (q_md_closesSums 1 b71 b72 c64_12 c64_13) (fun v14 =>
     some (.inl (((v14.1)), b72, c64_7 + 1, c64_9, c64_10, c64_11 - 1, (v14.2.1), ((v14.2.2)) - 1))))))
  else
   bif decide (4 ≤ v3) then
    zbd (q_md_closesSums 0 b71 b72 c64_12 c64_13) (fun v15 =>
    zg (zin ((v15.2.2)) 260) (
    zbd (q_md_readsFactor a70 ((v15.1)) (zup b72 (((v15.2.2)).toNatClampNeg) (1048576 * v3)) (c64_7 + 1) (f64_8) c64_9 c64_10 c64_11 ((v15.2.1)) (((v15.2.2)) + 1)) (fun v16 =>
    bif !decide ((v16.1) = 0) then
     some (.inl (((v16.2.1)), ((v16.2.2.1)), (v16.2.2.2.1), (v16.2.2.2.2.1), (v16.2.2.2.2.2.1), (v16.2.2.2.2.2.2.1), (v16.2.2.2.2.2.2.2.1), (v16.2.2.2.2.2.2.2.2)))
    else
     some (.inr (0, ((v16.2.1)), ((v16.2.2.1)), (v16.2.2.2.1), (v16.2.2.2.2.1), (v16.2.2.2.2.2.1), (v16.2.2.2.2.2.2.1), (v16.2.2.2.2.2.2.2.1), (v16.2.2.2.2.2.2.2.2))))))
   else
    zbd (q_md_closesSums 1 b71 b72 c64_12 c64_13) (fun v17 =>
    zg (zin ((v17.2.2)) 260) (
    zbd (q_md_readsFactor a70 ((v17.1)) (zup b72 (((v17.2.2)).toNatClampNeg) (1048576 * v3)) (c64_7 + 1) (f64_8) c64_9 c64_10 c64_11 ((v17.2.1)) (((v17.2.2)) + 1)) (fun v18 =>
    bif !decide ((v18.1) = 0) then
     some (.inl (((v18.2.1)), ((v18.2.2.1)), (v18.2.2.2.1), (v18.2.2.2.2.1), (v18.2.2.2.2.2.1), (v18.2.2.2.2.2.2.1), (v18.2.2.2.2.2.2.2.1), (v18.2.2.2.2.2.2.2.2)))
    else
     some (.inr (0, ((v18.2.1)), ((v18.2.2.1)), (v18.2.2.2.1), (v18.2.2.2.2.1), (v18.2.2.2.2.2.1), (v18.2.2.2.2.2.2.1), (v18.2.2.2.2.2.2.2.1), (v18.2.2.2.2.2.2.2.2)))))))))
noncomputable def f_md_readsSum_14 (a70 : Nat → Int32) (f64_8 : Int32) (l1 : Int32) : U_md_readsSum_14 → Option (U_md_readsSum_14 ⊕ T_md_readsSum) := fun s => b_md_readsSum_14 a70 f64_8 l1 s.1 s.2.1 s.2.2.1 s.2.2.2.1 s.2.2.2.2.1 s.2.2.2.2.2.1 s.2.2.2.2.2.2.1 s.2.2.2.2.2.2.2
noncomputable def l_md_readsSum_14 (a70 : Nat → Int32) (f64_8 : Int32) (l1 : Int32) (b71 : Nat → Int32) (b72 : Nat → Int32) (c64_7 : Int32) (c64_9 : Int32) (c64_10 : Int32) (c64_11 : Int32) (c64_12 : Int32) (c64_13 : Int32) : Option T_md_readsSum := zlp (f_md_readsSum_14 a70 f64_8 l1) (b71, b72, c64_7, c64_9, c64_10, c64_11, c64_12, c64_13)
noncomputable def q_md_readsSum (a70 : Nat → Int32) (a71 : Nat → Int32) (a72 : Nat → Int32) (f64_7 : Int32) (f64_8 : Int32) (f64_9 : Int32) (f64_10 : Int32) (f64_11 : Int32) (f64_12 : Int32) (f64_13 : Int32) : Option T_md_readsSum :=
  zbd (q_md_readsFactor a70 a71 a72 (f64_7) (f64_8) (f64_9) (f64_10) (f64_11) (f64_12) (f64_13)) (fun v1 =>
  bif !decide ((v1.1) = 0) then
   l_md_readsSum_14 a70 f64_8 (f64_13) ((v1.2.1)) ((v1.2.2.1)) ((v1.2.2.2.1)) ((v1.2.2.2.2.1)) ((v1.2.2.2.2.2.1)) ((v1.2.2.2.2.2.2.1)) ((v1.2.2.2.2.2.2.2.1)) ((v1.2.2.2.2.2.2.2.2))
  else
   some (0, ((v1.2.1)), ((v1.2.2.1)), (v1.2.2.2.1), (v1.2.2.2.2.1), (v1.2.2.2.2.2.1), (v1.2.2.2.2.2.2.1), (v1.2.2.2.2.2.2.2.1), (v1.2.2.2.2.2.2.2.2)))
def P_md_readsSum (Q : (Nat → Int32) → (Nat → Int32) → (Nat → Int32) → Int32 → Int32 → Int32 → Int32 → Int32 → Int32 → Int32 → Option (Int32 × (Nat → Int32) × (Nat → Int32) × Int32 × Int32 × Int32 × Int32 × Int32 × Int32)) : zSp := fun as g => match as with
  | [.ref a] => bif Nat.beq a 64 then zpe (Q (g.1 70) (g.1 71) (g.1 72) (g.2.1 64 7) (g.2.1 64 8) (g.2.1 64 9) (g.2.1 64 10) (g.2.1 64 11) (g.2.1 64 12) (g.2.1 64 13)) (fun t => (some (.int (t.1)), ((zua (zua g.1 71 t.2.1) 72 t.2.2.1), (zuf (zuf (zuf (zuf (zuf (zuf g.2.1 64 7 t.2.2.2.1) 64 9 t.2.2.2.2.1) 64 10 t.2.2.2.2.2.1) 64 11 t.2.2.2.2.2.2.1) 64 12 t.2.2.2.2.2.2.2.1) 64 13 t.2.2.2.2.2.2.2.2), g.2.2))) else none
  | _ => none
noncomputable abbrev S_md_readsSum : zSp := P_md_readsSum q_md_readsSum
theorem hF7_md_readsSum (F : Nat → Nat → Int32) (w0 w1 w2 w3 w4 w5 : Int32) : (zuf (zuf (zuf (zuf (zuf (zuf F 64 7 w0) 64 9 w1) 64 10 w2) 64 11 w3) 64 12 w4) 64 13 w5) = (zuf (zuf (zuf (zuf (zuf (zuf F 64 7 w0) 64 9 w1) 64 10 w2) 64 11 w3) 64 12 w4) 64 13 w5) := zufk_ix F [((64, 7), w0), ((64, 9), w1), ((64, 10), w2), ((64, 11), w3), ((64, 12), w4), ((64, 13), w5)] [((64, 7), some 0), ((64, 9), some 1), ((64, 10), some 2), ((64, 11), some 3), ((64, 12), some 4), ((64, 13), some 5)] rfl
theorem hF6_md_readsSum (F : Nat → Nat → Int32) (w0 w1 w2 w3 w4 w5 w6 w7 w8 w9 w10 w11 w12 w13 w14 w15 : Int32) : (zuf (zuf (zuf (zuf (zuf (zuf (zuf (zuf (zuf (zuf (zuf (zuf (zuf (zuf (zuf (zuf F 64 7 w0) 64 9 w1) 64 10 w2) 64 11 w3) 64 12 w4) 64 13 w5) 64 12 w6) 64 13 w7) 64 13 w8) 64 7 w9) 64 7 w10) 64 9 w11) 64 10 w12) 64 11 w13) 64 12 w14) 64 13 w15) = (zuf (zuf (zuf (zuf (zuf (zuf F 64 7 w10) 64 9 w11) 64 10 w12) 64 11 w13) 64 12 w14) 64 13 w15) := zufk_ix F [((64, 7), w0), ((64, 9), w1), ((64, 10), w2), ((64, 11), w3), ((64, 12), w4), ((64, 13), w5), ((64, 12), w6), ((64, 13), w7), ((64, 13), w8), ((64, 7), w9), ((64, 7), w10), ((64, 9), w11), ((64, 10), w12), ((64, 11), w13), ((64, 12), w14), ((64, 13), w15)] [((64, 7), some 10), ((64, 9), some 11), ((64, 10), some 12), ((64, 11), some 13), ((64, 12), some 14), ((64, 13), some 15)] rfl
theorem hA5_md_readsSum (F : Nat → Nat → Int32) (w0 w1 w2 w3 w4 w5 : Nat → Int32) : (zua (zua (zua (zua (zua (zua F 71 w0) 72 w1) 71 w2) 72 w3) 71 w4) 72 w5) = (zua (zua F 71 w4) 72 w5) := zuak_ix F [(71, w0), (72, w1), (71, w2), (72, w3), (71, w4), (72, w5)] [(71, some 4), (72, some 5)] rfl
theorem hF4_md_readsSum (F : Nat → Nat → Int32) (w0 w1 w2 w3 w4 w5 w6 w7 w8 w9 w10 : Int32) : (zuf (zuf (zuf (zuf (zuf (zuf (zuf (zuf (zuf (zuf (zuf F 64 7 w0) 64 9 w1) 64 10 w2) 64 11 w3) 64 12 w4) 64 13 w5) 64 12 w6) 64 13 w7) 64 13 w8) 64 11 w9) 64 7 w10) = (zuf (zuf (zuf (zuf (zuf (zuf F 64 7 w10) 64 9 w1) 64 10 w2) 64 11 w9) 64 12 w6) 64 13 w8) := zufk_ix F [((64, 7), w0), ((64, 9), w1), ((64, 10), w2), ((64, 11), w3), ((64, 12), w4), ((64, 13), w5), ((64, 12), w6), ((64, 13), w7), ((64, 13), w8), ((64, 11), w9), ((64, 7), w10)] [((64, 7), some 10), ((64, 9), some 1), ((64, 10), some 2), ((64, 11), some 9), ((64, 12), some 6), ((64, 13), some 8)] rfl
theorem hF3_md_readsSum (F : Nat → Nat → Int32) (w0 w1 w2 w3 w4 w5 w6 : Int32) : (zuf (zuf (zuf (zuf (zuf (zuf (zuf F 64 7 w0) 64 9 w1) 64 10 w2) 64 11 w3) 64 12 w4) 64 13 w5) 64 9 w6) = (zuf (zuf (zuf (zuf (zuf (zuf F 64 7 w0) 64 9 w6) 64 10 w2) 64 11 w3) 64 12 w4) 64 13 w5) := zufk_ix F [((64, 7), w0), ((64, 9), w1), ((64, 10), w2), ((64, 11), w3), ((64, 12), w4), ((64, 13), w5), ((64, 9), w6)] [((64, 7), some 0), ((64, 9), some 6), ((64, 10), some 2), ((64, 11), some 3), ((64, 12), some 4), ((64, 13), some 5)] rfl
theorem hA2_md_readsSum (F : Nat → Nat → Int32) (w0 w1 : Nat → Int32) : (zua (zua F 71 w0) 72 w1) = (zua (zua F 71 w0) 72 w1) := zuak_ix F [(71, w0), (72, w1)] [(71, some 0), (72, some 1)] rfl
theorem hF1_md_readsSum (F : Nat → Nat → Int32) (w0 w1 w2 w3 w4 w5 w6 w7 : Int32) : (zuf (zuf (zuf (zuf (zuf (zuf (zuf (zuf F 64 7 w0) 64 9 w1) 64 10 w2) 64 11 w3) 64 12 w4) 64 13 w5) 64 12 w6) 64 13 w7) = (zuf (zuf (zuf (zuf (zuf (zuf F 64 7 w0) 64 9 w1) 64 10 w2) 64 11 w3) 64 12 w6) 64 13 w7) := zufk_ix F [((64, 7), w0), ((64, 9), w1), ((64, 10), w2), ((64, 11), w3), ((64, 12), w4), ((64, 13), w5), ((64, 12), w6), ((64, 13), w7)] [((64, 7), some 0), ((64, 9), some 1), ((64, 10), some 2), ((64, 11), some 3), ((64, 12), some 6), ((64, 13), some 7)] rfl
theorem hA0_md_readsSum (F : Nat → Nat → Int32) (w0 w1 w2 : Nat → Int32) : (zua (zua (zua F 71 w0) 72 w1) 71 w2) = (zua (zua F 71 w2) 72 w1) := zuak_ix F [(71, w0), (72, w1), (71, w2)] [(71, some 2), (72, some 1)] rfl
def O_md_readsSum (ar fi : Nat → Nat → Int32) (m1 : Nat) (m2 : Nat) (m3 : Nat) (m4 : Nat) (m5 : Nat) (t : T_md_readsSum) : zO2 := match t with
  | (t0, t1, t2, t3, t4, t5, t6, t7, t8) => (some (.int (t0)), ((zua (zua ar 71 t1) 72 t2), (zuf (zuf (zuf (zuf (zuf (zuf fi 64 7 t3) 64 9 t4) 64 10 t5) 64 11 t6) 64 12 t7) 64 13 t8), (m1, m2, m3, m4, m5)))
def M_md_readsSum_14 (X : Nat × (Nat → Int32)) (E : zTE) (ar fi : Nat → Nat → Int32) (m1 : Nat) (m2 : Nat) (m3 : Nat) (m4 : Nat) (m5 : Nat) (l1 : Int32) (o : zO2) (s : U_md_readsSum_14) : Prop := match s with
  | (b71, b72, c64_7, c64_9, c64_10, c64_11, c64_12, c64_13) => zR2 X zFT E zc_171 14 [.ref 64, .int l1] [] ((zua (zua ar 71 b71) 72 b72), (zuf (zuf (zuf (zuf (zuf (zuf fi 64 7 c64_7) 64 9 c64_9) 64 10 c64_10) 64 11 c64_11) 64 12 c64_12) 64 13 c64_13), (m1, m2, m3, m4, m5)) o
set_option maxRecDepth 1000000 in
theorem t14_md_readsSum {X : Nat × (Nat → Int32)} {ar fi : Nat → Nat → Int32} {m1 m2 m3 m4 m5 : Nat} {l1 : Int32} {b71 : Nat → Int32} {b72 : Nat → Int32} {c64_7 : Int32} {c64_9 : Int32} {c64_10 : Int32} {c64_11 : Int32} {c64_12 : Int32} {c64_13 : Int32} {Q_md_readsFactor : (Nat → Int32) → (Nat → Int32) → (Nat → Int32) → Int32 → Int32 → Int32 → Int32 → Int32 → Int32 → Int32 → Option (Int32 × (Nat → Int32) × (Nat → Int32) × Int32 × Int32 × Int32 × Int32 × Int32 × Int32)} {G_md_here : Int32 → Int32 → (Nat → Int32) → Bool} {W_md_here : Int32 → Int32 → (Nat → Int32) → Int32} {W_md_sumSign : Int32 → Int32} {Q_md_closesSums : Int32 → (Nat → Int32) → (Nat → Int32) → Int32 → Int32 → Option ((Nat → Int32) × Int32 × Int32)} {Q_md_hasOpenSum : Int32 → (Nat → Int32) → Int32 → Option (Int32)} {W_md_wrongAt : Int32 → Int32 → Int32} {F0_md_wrongAt : Int32 → Int32 → Int32} : zseg X zFT (zEx 169 (P_md_readsFactor Q_md_readsFactor) (zEx 158 (P_md_here G_md_here W_md_here) (zEx 167 (P_md_sumSign W_md_sumSign) (zEx 168 (P_md_closesSums Q_md_closesSums) (zEx 170 (P_md_hasOpenSum Q_md_hasOpenSum) (zEx 160 (P_md_wrongAt W_md_wrongAt F0_md_wrongAt) zE0)))))) zc_171 (fun p => Nat.beq p 14) 400 14 [.ref 64, .int l1] [] ((zua (zua ar 71 b71) 72 b72), (zuf (zuf (zuf (zuf (zuf (zuf fi 64 7 c64_7) 64 9 c64_9) 64 10 c64_10) 64 11 c64_11) 64 12 c64_12) 64 13 c64_13), (m1, m2, m3, m4, m5)) = (
  zg (G_md_here (fi 64 8) c64_7 (ar 70)) (
  zl (W_md_here (fi 64 8) c64_7 (ar 70)) (fun v2 =>
  zl (W_md_sumSign v2) (fun v3 =>
  bif decide (v3 = (-1)) then
   zg (G_md_here (fi 64 8) c64_7 (ar 70)) (
   zl (W_md_here (fi 64 8) c64_7 (ar 70)) (fun v4 =>
   bif !decide (v4 = 93) then
    zl (Q_md_hasOpenSum l1 b72 c64_13) (fun v5 => zg v5.isSome (
    bif decide (((zgt v5)) = 0) then
     zl (Q_md_closesSums 1 b71 b72 c64_12 c64_13) (fun v6 => zg v6.isSome (
     some (.inr (some (.int 1), ((zua (zua (zua ar 71 b71) 72 b72) 71 (((zgt v6).1))), (zuf (zuf (zuf (zuf (zuf (zuf (zuf (zuf fi 64 7 c64_7) 64 9 c64_9) 64 10 c64_10) 64 11 c64_11) 64 12 c64_12) 64 13 c64_13) 64 12 (((zgt v6).2.1))) 64 13 (((zgt v6).2.2))), (m1, m2, m3, m4, m5))))))
    else
     zl (W_md_wrongAt 1 c64_7) (fun v7 =>
     zl (F0_md_wrongAt 1 c64_7) (fun v8 =>
     zg (Nat.beq 1 0 || (decide (v7 = 0) || decide (v7 = 1))) (
     some (.inr (some (.int v7), ((zua (zua ar 71 b71) 72 b72), (zuf (zuf (zuf (zuf (zuf (zuf (zuf fi 64 7 c64_7) 64 9 c64_9) 64 10 c64_10) 64 11 c64_11) 64 12 c64_12) 64 13 c64_13) 64 9 v8), (m1, m2, m3, m4, m5)))))))))
   else
    zl (Q_md_hasOpenSum l1 b72 c64_13) (fun v9 => zg v9.isSome (
    bif decide (((zgt v9)) = 0) then
     zl (Q_md_hasOpenSum l1 b72 c64_13) (fun v10 => zg v10.isSome (
     bif decide (((zgt v10)) = 0) then
      zl (Q_md_closesSums 1 b71 b72 c64_12 c64_13) (fun v11 => zg v11.isSome (
      some (.inr (some (.int 1), ((zua (zua (zua ar 71 b71) 72 b72) 71 (((zgt v11).1))), (zuf (zuf (zuf (zuf (zuf (zuf (zuf (zuf fi 64 7 c64_7) 64 9 c64_9) 64 10 c64_10) 64 11 c64_11) 64 12 c64_12) 64 13 c64_13) 64 12 (((zgt v11).2.1))) 64 13 (((zgt v11).2.2))), (m1, m2, m3, m4, m5))))))
     else
      zl (W_md_wrongAt 1 c64_7) (fun v12 =>
      zl (F0_md_wrongAt 1 c64_7) (fun v13 =>
      zg (Nat.beq 1 0 || (decide (v12 = 0) || decide (v12 = 1))) (
      some (.inr (some (.int v12), ((zua (zua ar 71 b71) 72 b72), (zuf (zuf (zuf (zuf (zuf (zuf (zuf fi 64 7 c64_7) 64 9 c64_9) 64 10 c64_10) 64 11 c64_11) 64 12 c64_12) 64 13 c64_13) 64 9 v13), (m1, m2, m3, m4, m5)))))))))
    else
     zl (Q_md_closesSums 1 b71 b72 c64_12 c64_13) (fun v14 => zg v14.isSome (
     some (.inl (14, [.ref 64, .int l1], [], ((zua (zua (zua ar 71 b71) 72 b72) 71 (((zgt v14).1))), (zuf (zuf (zuf (zuf (zuf (zuf (zuf (zuf (zuf (zuf (zuf fi 64 7 c64_7) 64 9 c64_9) 64 10 c64_10) 64 11 c64_11) 64 12 c64_12) 64 13 c64_13) 64 12 (((zgt v14).2.1))) 64 13 (((zgt v14).2.2))) 64 13 ((((zgt v14).2.2)) - 1)) 64 11 (c64_11 - 1)) 64 7 (c64_7 + 1)), (m1, m2, m3, m4, m5))))))))))
  else
   bif decide (4 ≤ v3) then
    zl (Q_md_closesSums 0 b71 b72 c64_12 c64_13) (fun v15 => zg v15.isSome (
    zg (Nat.beq 16 16 && (zin (((zgt v15).2.2)) 260)) (
    zl (Q_md_readsFactor (ar 70) (((zgt v15).1)) (zup b72 ((((zgt v15).2.2)).toNatClampNeg) (1048576 * v3)) (c64_7 + 1) (fi 64 8) c64_9 c64_10 c64_11 (((zgt v15).2.1)) ((((zgt v15).2.2)) + 1)) (fun v16 => zg v16.isSome (
    bif !decide (((zgt v16).1) = 0) then
     some (.inl (14, [.ref 64, .int l1], [], ((zua (zua (zua (zua (zua (zua ar 71 b71) 72 b72) 71 (((zgt v15).1))) 72 (zup b72 ((((zgt v15).2.2)).toNatClampNeg) (1048576 * v3))) 71 (((zgt v16).2.1))) 72 (((zgt v16).2.2.1))), (zuf (zuf (zuf (zuf (zuf (zuf (zuf (zuf (zuf (zuf (zuf (zuf (zuf (zuf (zuf (zuf fi 64 7 c64_7) 64 9 c64_9) 64 10 c64_10) 64 11 c64_11) 64 12 c64_12) 64 13 c64_13) 64 12 (((zgt v15).2.1))) 64 13 (((zgt v15).2.2))) 64 13 ((((zgt v15).2.2)) + 1)) 64 7 (c64_7 + 1)) 64 7 (((zgt v16).2.2.2.1))) 64 9 (((zgt v16).2.2.2.2.1))) 64 10 (((zgt v16).2.2.2.2.2.1))) 64 11 (((zgt v16).2.2.2.2.2.2.1))) 64 12 (((zgt v16).2.2.2.2.2.2.2.1))) 64 13 (((zgt v16).2.2.2.2.2.2.2.2))), (m1, m2, m3, m4, m5))))
    else
     some (.inr (some (.int 0), ((zua (zua (zua (zua (zua (zua ar 71 b71) 72 b72) 71 (((zgt v15).1))) 72 (zup b72 ((((zgt v15).2.2)).toNatClampNeg) (1048576 * v3))) 71 (((zgt v16).2.1))) 72 (((zgt v16).2.2.1))), (zuf (zuf (zuf (zuf (zuf (zuf (zuf (zuf (zuf (zuf (zuf (zuf (zuf (zuf (zuf (zuf fi 64 7 c64_7) 64 9 c64_9) 64 10 c64_10) 64 11 c64_11) 64 12 c64_12) 64 13 c64_13) 64 12 (((zgt v15).2.1))) 64 13 (((zgt v15).2.2))) 64 13 ((((zgt v15).2.2)) + 1)) 64 7 (c64_7 + 1)) 64 7 (((zgt v16).2.2.2.1))) 64 9 (((zgt v16).2.2.2.2.1))) 64 10 (((zgt v16).2.2.2.2.2.1))) 64 11 (((zgt v16).2.2.2.2.2.2.1))) 64 12 (((zgt v16).2.2.2.2.2.2.2.1))) 64 13 (((zgt v16).2.2.2.2.2.2.2.2))), (m1, m2, m3, m4, m5)))))))))
   else
    zl (Q_md_closesSums 1 b71 b72 c64_12 c64_13) (fun v17 => zg v17.isSome (
    zg (Nat.beq 16 16 && (zin (((zgt v17).2.2)) 260)) (
    zl (Q_md_readsFactor (ar 70) (((zgt v17).1)) (zup b72 ((((zgt v17).2.2)).toNatClampNeg) (1048576 * v3)) (c64_7 + 1) (fi 64 8) c64_9 c64_10 c64_11 (((zgt v17).2.1)) ((((zgt v17).2.2)) + 1)) (fun v18 => zg v18.isSome (
    bif !decide (((zgt v18).1) = 0) then
     some (.inl (14, [.ref 64, .int l1], [], ((zua (zua (zua (zua (zua (zua ar 71 b71) 72 b72) 71 (((zgt v17).1))) 72 (zup b72 ((((zgt v17).2.2)).toNatClampNeg) (1048576 * v3))) 71 (((zgt v18).2.1))) 72 (((zgt v18).2.2.1))), (zuf (zuf (zuf (zuf (zuf (zuf (zuf (zuf (zuf (zuf (zuf (zuf (zuf (zuf (zuf (zuf fi 64 7 c64_7) 64 9 c64_9) 64 10 c64_10) 64 11 c64_11) 64 12 c64_12) 64 13 c64_13) 64 12 (((zgt v17).2.1))) 64 13 (((zgt v17).2.2))) 64 13 ((((zgt v17).2.2)) + 1)) 64 7 (c64_7 + 1)) 64 7 (((zgt v18).2.2.2.1))) 64 9 (((zgt v18).2.2.2.2.1))) 64 10 (((zgt v18).2.2.2.2.2.1))) 64 11 (((zgt v18).2.2.2.2.2.2.1))) 64 12 (((zgt v18).2.2.2.2.2.2.2.1))) 64 13 (((zgt v18).2.2.2.2.2.2.2.2))), (m1, m2, m3, m4, m5))))
    else
     some (.inr (some (.int 0), ((zua (zua (zua (zua (zua (zua ar 71 b71) 72 b72) 71 (((zgt v17).1))) 72 (zup b72 ((((zgt v17).2.2)).toNatClampNeg) (1048576 * v3))) 71 (((zgt v18).2.1))) 72 (((zgt v18).2.2.1))), (zuf (zuf (zuf (zuf (zuf (zuf (zuf (zuf (zuf (zuf (zuf (zuf (zuf (zuf (zuf (zuf fi 64 7 c64_7) 64 9 c64_9) 64 10 c64_10) 64 11 c64_11) 64 12 c64_12) 64 13 c64_13) 64 12 (((zgt v17).2.1))) 64 13 (((zgt v17).2.2))) 64 13 ((((zgt v17).2.2)) + 1)) 64 7 (c64_7 + 1)) 64 7 (((zgt v18).2.2.2.1))) 64 9 (((zgt v18).2.2.2.2.1))) 64 10 (((zgt v18).2.2.2.2.2.1))) 64 11 (((zgt v18).2.2.2.2.2.2.1))) 64 12 (((zgt v18).2.2.2.2.2.2.2.1))) 64 13 (((zgt v18).2.2.2.2.2.2.2.2))), (m1, m2, m3, m4, m5)))))))))))) : Option ((Nat × List Value × List Value × zH2) ⊕ zO2)) := by with_unfolding_all rfl
set_option maxRecDepth 20000 in
theorem k_md_readsSum_14 {X : Nat × (Nat → Int32)} {ar fi : Nat → Nat → Int32} {m1 m2 m3 m4 m5 : Nat} {l1 : Int32} {o : zO2} : ∀ (s : U_md_readsSum_14) (q : U_md_readsSum_14 ⊕ T_md_readsSum), f_md_readsSum_14 (ar 70) (fi 64 8) l1 s = some q → zq (M_md_readsSum_14 X (zEx 169 S_md_readsFactor (zEx 158 S_md_here (zEx 167 S_md_sumSign (zEx 168 S_md_closesSums (zEx 170 S_md_hasOpenSum (zEx 160 S_md_wrongAt zE0)))))) ar fi m1 m2 m3 m4 m5 l1 o) (fun t => O_md_readsSum ar fi m1 m2 m3 m4 m5 t = o) q → M_md_readsSum_14 X (zEx 169 S_md_readsFactor (zEx 158 S_md_here (zEx 167 S_md_sumSign (zEx 168 S_md_closesSums (zEx 170 S_md_hasOpenSum (zEx 160 S_md_wrongAt zE0)))))) ar fi m1 m2 m3 m4 m5 l1 o s := by
  intro s q h hq
  obtain ⟨b71, b72, c64_7, c64_9, c64_10, c64_11, c64_12, c64_13⟩ := s
  have h : b_md_readsSum_14 (ar 70) (fi 64 8) l1 b71 b72 c64_7 c64_9 c64_10 c64_11 c64_12 c64_13 = some q := h
  unfold b_md_readsSum_14 at h
  show zR2 X zFT (zEx 169 S_md_readsFactor (zEx 158 S_md_here (zEx 167 S_md_sumSign (zEx 168 S_md_closesSums (zEx 170 S_md_hasOpenSum (zEx 160 S_md_wrongAt zE0)))))) zc_171 14 [.ref 64, .int l1] [] ((zua (zua ar 71 b71) 72 b72), (zuf (zuf (zuf (zuf (zuf (zuf fi 64 7 c64_7) 64 9 c64_9) 64 10 c64_10) 64 11 c64_11) 64 12 c64_12) 64 13 c64_13), (m1, m2, m3, m4, m5)) o
  refine zT_seg t14_md_readsSum ?_
  obtain ⟨TT, hTT⟩ : ∃ T, T = zT X zFT (zEx 169 S_md_readsFactor (zEx 158 S_md_here (zEx 167 S_md_sumSign (zEx 168 S_md_closesSums (zEx 170 S_md_hasOpenSum (zEx 160 S_md_wrongAt zE0)))))) zc_171 o := ⟨_, rfl⟩
  rw [← hTT]
  refine zg_el h (fun hg h => zU_g hTT hg ?_)
  refine zl_el h (fun h => zU_l hTT ?_)
  refine zl_el h (fun h => zU_l hTT ?_)
  refine zb_el h (fun hb h => zU_t hTT hb ?_) (fun hb h => zU_f hTT hb ?_)
  · refine zg_el h (fun hg h => zU_g hTT hg ?_)
    refine zl_el h (fun h => zU_l hTT ?_)
    refine zb_el h (fun hb h => zU_t hTT hb ?_) (fun hb h => zU_f hTT hb ?_)
    · refine zbd_el h (fun v5 hv h => zU_c hTT hv ?_)
      refine zb_el h (fun hb h => zU_t hTT hb ?_) (fun hb h => zU_f hTT hb ?_)
      · refine zbd_el h (fun v6 hv h => zU_c hTT hv ?_)
        rw [hTT]
        have hz := zsi h hq
        refine (zO_mk ?_ ?_).trans hz
        · first | with_reducible rfl | exact hA0_md_readsSum _ _ _ _
        · first | with_reducible rfl | exact hF1_md_readsSum _ _ _ _ _ _ _ _ _
      · refine zl_el h (fun h => zU_l hTT ?_)
        refine zl_el h (fun h => zU_l hTT ?_)
        refine zg_el h (fun hg h => zU_gr hTT hg ?_)
        rw [hTT]
        have hz := zsi h hq
        refine (zO_mk ?_ ?_).trans hz
        · first | with_reducible rfl | exact hA2_md_readsSum _ _ _
        · first | with_reducible rfl | exact hF3_md_readsSum _ _ _ _ _ _ _ _
    · refine zbd_el h (fun v9 hv h => zU_c hTT hv ?_)
      refine zb_el h (fun hb h => zU_t hTT hb ?_) (fun hb h => zU_f hTT hb ?_)
      · refine zbd_el h (fun v10 hv h => zU_c hTT hv ?_)
        refine zb_el h (fun hb h => zU_t hTT hb ?_) (fun hb h => zU_f hTT hb ?_)
        · refine zbd_el h (fun v11 hv h => zU_c hTT hv ?_)
          rw [hTT]
          have hz := zsi h hq
          refine (zO_mk ?_ ?_).trans hz
          · first | with_reducible rfl | exact hA0_md_readsSum _ _ _ _
          · first | with_reducible rfl | exact hF1_md_readsSum _ _ _ _ _ _ _ _ _
        · refine zl_el h (fun h => zU_l hTT ?_)
          refine zl_el h (fun h => zU_l hTT ?_)
          refine zg_el h (fun hg h => zU_gr hTT hg ?_)
          rw [hTT]
          have hz := zsi h hq
          refine (zO_mk ?_ ?_).trans hz
          · first | with_reducible rfl | exact hA2_md_readsSum _ _ _
          · first | with_reducible rfl | exact hF3_md_readsSum _ _ _ _ _ _ _ _
      · refine zbd_el h (fun v14 hv h => zU_c hTT hv ?_)
        rw [hTT]
        have hz := zsi h hq
        refine zR2_hp ?_ ?_ hz
        · first | with_reducible rfl | exact hA0_md_readsSum _ _ _ _
        · first | with_reducible rfl | exact hF4_md_readsSum _ _ _ _ _ _ _ _ _ _ _ _
  · refine zb_el h (fun hb h => zU_t hTT hb ?_) (fun hb h => zU_f hTT hb ?_)
    · refine zbd_el h (fun v15 hv h => zU_c hTT hv ?_)
      refine zg_el h (fun hg h => zU_ga hTT hg ?_)
      refine zbd_el h (fun v16 hv h => zU_c hTT hv ?_)
      refine zb_el h (fun hb h => zU_t hTT hb ?_) (fun hb h => zU_f hTT hb ?_)
      · rw [hTT]
        have hz := zsi h hq
        refine zR2_hp ?_ ?_ hz
        · first | with_reducible rfl | exact hA5_md_readsSum _ _ _ _ _ _ _
        · first | with_reducible rfl | exact hF6_md_readsSum _ _ _ _ _ _ _ _ _ _ _ _ _ _ _ _ _
      · rw [hTT]
        have hz := zsi h hq
        refine (zO_mk ?_ ?_).trans hz
        · first | with_reducible rfl | exact hA5_md_readsSum _ _ _ _ _ _ _
        · first | with_reducible rfl | exact hF6_md_readsSum _ _ _ _ _ _ _ _ _ _ _ _ _ _ _ _ _
    · refine zbd_el h (fun v17 hv h => zU_c hTT hv ?_)
      refine zg_el h (fun hg h => zU_ga hTT hg ?_)
      refine zbd_el h (fun v18 hv h => zU_c hTT hv ?_)
      refine zb_el h (fun hb h => zU_t hTT hb ?_) (fun hb h => zU_f hTT hb ?_)
      · rw [hTT]
        have hz := zsi h hq
        refine zR2_hp ?_ ?_ hz
        · first | with_reducible rfl | exact hA5_md_readsSum _ _ _ _ _ _ _
        · first | with_reducible rfl | exact hF6_md_readsSum _ _ _ _ _ _ _ _ _ _ _ _ _ _ _ _ _
      · rw [hTT]
        have hz := zsi h hq
        refine (zO_mk ?_ ?_).trans hz
        · first | with_reducible rfl | exact hA5_md_readsSum _ _ _ _ _ _ _
        · first | with_reducible rfl | exact hF6_md_readsSum _ _ _ _ _ _ _ _ _ _ _ _ _ _ _ _ _
set_option maxRecDepth 1000000 in
theorem t_md_readsSum {X : Nat × (Nat → Int32)} {ar fi : Nat → Nat → Int32} {m1 m2 m3 m4 m5 : Nat} {Q_md_readsFactor : (Nat → Int32) → (Nat → Int32) → (Nat → Int32) → Int32 → Int32 → Int32 → Int32 → Int32 → Int32 → Int32 → Option (Int32 × (Nat → Int32) × (Nat → Int32) × Int32 × Int32 × Int32 × Int32 × Int32 × Int32)} {G_md_here : Int32 → Int32 → (Nat → Int32) → Bool} {W_md_here : Int32 → Int32 → (Nat → Int32) → Int32} {W_md_sumSign : Int32 → Int32} {Q_md_closesSums : Int32 → (Nat → Int32) → (Nat → Int32) → Int32 → Int32 → Option ((Nat → Int32) × Int32 × Int32)} {Q_md_hasOpenSum : Int32 → (Nat → Int32) → Int32 → Option (Int32)} {W_md_wrongAt : Int32 → Int32 → Int32} {F0_md_wrongAt : Int32 → Int32 → Int32} : zseg X zFT (zEx 169 (P_md_readsFactor Q_md_readsFactor) (zEx 158 (P_md_here G_md_here W_md_here) (zEx 167 (P_md_sumSign W_md_sumSign) (zEx 168 (P_md_closesSums Q_md_closesSums) (zEx 170 (P_md_hasOpenSum Q_md_hasOpenSum) (zEx 160 (P_md_wrongAt W_md_wrongAt F0_md_wrongAt) zE0)))))) zc_171 (fun p => Nat.beq p 14) 400 0 [.ref 64] [] (ar, fi, (m1, m2, m3, m4, m5)) = (
  zl (Q_md_readsFactor (ar 70) (ar 71) (ar 72) (fi 64 7) (fi 64 8) (fi 64 9) (fi 64 10) (fi 64 11) (fi 64 12) (fi 64 13)) (fun v1 => zg v1.isSome (
  bif !decide (((zgt v1).1) = 0) then
   some (.inl (14, [.ref 64, .int (fi 64 13)], [], ((zua (zua ar 71 (((zgt v1).2.1))) 72 (((zgt v1).2.2.1))), (zuf (zuf (zuf (zuf (zuf (zuf fi 64 7 (((zgt v1).2.2.2.1))) 64 9 (((zgt v1).2.2.2.2.1))) 64 10 (((zgt v1).2.2.2.2.2.1))) 64 11 (((zgt v1).2.2.2.2.2.2.1))) 64 12 (((zgt v1).2.2.2.2.2.2.2.1))) 64 13 (((zgt v1).2.2.2.2.2.2.2.2))), (m1, m2, m3, m4, m5))))
  else
   some (.inr (some (.int 0), ((zua (zua ar 71 (((zgt v1).2.1))) 72 (((zgt v1).2.2.1))), (zuf (zuf (zuf (zuf (zuf (zuf fi 64 7 (((zgt v1).2.2.2.1))) 64 9 (((zgt v1).2.2.2.2.1))) 64 10 (((zgt v1).2.2.2.2.2.1))) 64 11 (((zgt v1).2.2.2.2.2.2.1))) 64 12 (((zgt v1).2.2.2.2.2.2.2.1))) 64 13 (((zgt v1).2.2.2.2.2.2.2.2))), (m1, m2, m3, m4, m5)))))) : Option ((Nat × List Value × List Value × zH2) ⊕ zO2)) := by with_unfolding_all rfl
set_option maxRecDepth 20000 in
theorem e_md_readsSum {X : Nat × (Nat → Int32)} {ar fi : Nat → Nat → Int32} {m1 m2 m3 m4 m5 : Nat} {o : zO2} : ∀ (q : T_md_readsSum), q_md_readsSum (ar 70) (ar 71) (ar 72) (fi 64 7) (fi 64 8) (fi 64 9) (fi 64 10) (fi 64 11) (fi 64 12) (fi 64 13) = some q → (fun t => O_md_readsSum ar fi m1 m2 m3 m4 m5 t = o) q → zR2 X zFT (zEx 169 S_md_readsFactor (zEx 158 S_md_here (zEx 167 S_md_sumSign (zEx 168 S_md_closesSums (zEx 170 S_md_hasOpenSum (zEx 160 S_md_wrongAt zE0)))))) zc_171 0 [.ref 64] [] (ar, fi, (m1, m2, m3, m4, m5)) o := by
  intro q h hq
  unfold q_md_readsSum at h
  refine zT_seg t_md_readsSum ?_
  obtain ⟨TT, hTT⟩ : ∃ T, T = zT X zFT (zEx 169 S_md_readsFactor (zEx 158 S_md_here (zEx 167 S_md_sumSign (zEx 168 S_md_closesSums (zEx 170 S_md_hasOpenSum (zEx 160 S_md_wrongAt zE0)))))) zc_171 o := ⟨_, rfl⟩
  rw [← hTT]
  refine zbd_el h (fun v1 hv h => zU_c hTT hv ?_)
  refine zb_el h (fun hb h => zU_t hTT hb ?_) (fun hb h => zU_f hTT hb ?_)
  · rw [hTT]
    refine zR2_hp ?_ ?_ (zlp_K k_md_readsSum_14 h hq)
    · first | with_reducible rfl | exact hA2_md_readsSum _ _ _
    · first | with_reducible rfl | exact hF7_md_readsSum _ _ _ _ _ _ _
  · rw [hTT]
    have hz := zsi (P := (fun t => O_md_readsSum ar fi m1 m2 m3 m4 m5 t = o)) h hq
    refine (zO_mk ?_ ?_).trans hz
    · first | with_reducible rfl | exact hA2_md_readsSum _ _ _
    · first | with_reducible rfl | exact hF7_md_readsSum _ _ _ _ _ _ _
theorem ok_md_readsSum (X : Nat × (Nat → Int32)) : zOkS X 171 S_md_readsSum 5 := zOkS_new (zOkE_cons (ok_md_readsFactor X) (by decide) (zOkE_cons (ok_md_here X) (by decide) (zOkE_cons (ok_md_sumSign X) (by decide) (zOkE_cons (ok_md_closesSums X) (by decide) (zOkE_cons (ok_md_hasOpenSum X) (by decide) (zOkE_cons (ok_md_wrongAt X) (by decide) (zOkE_nil X 4))))))) (by
  intro args g o h
  obtain ⟨ar, fi, m1, m2, m3, m4, m5⟩ := g
  unfold S_md_readsSum P_md_readsSum at h
  split at h
  · refine zb_el h (fun hI0 k0 => ?_) (fun _ h10 => ?_)
    · try simp only [Bool.and_eq_true] at hI0
      have j0 := hI0
      have e0 := Nat.eq_of_beq_eq_true j0
      subst e0
      exact zpe_el k0 (fun t ht ho => by obtain ⟨t0, t1, t2, t3, t4, t5, t6, t7, t8⟩ := t; exact e_md_readsSum _ ht ho)
    · cases h10
  · cases h)
