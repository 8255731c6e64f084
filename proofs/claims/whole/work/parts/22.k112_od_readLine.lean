abbrev T_od_readLine : Type := (Nat → Int32) × (Nat → Int32) × (Nat → Int32) × (Nat → Int32) × (Nat → Int32) × (Nat → Int32) × Int32 × Int32 × Int32 × Int32 × Int32 × Int32
noncomputable def q_od_readLine (y : Int32) (a1 : Nat → Int32) (a17 : Nat → Int32) (a18 : Nat → Int32) (a19 : Nat → Int32) (a20 : Nat → Int32) (a21 : Nat → Int32) (a22 : Nat → Int32) (f16_6 : Int32) (f16_7 : Int32) (f16_8 : Int32) (f47_1 : Int32) (f47_2 : Int32) (f47_3 : Int32) (f47_4 : Int32) : Option T_od_readLine :=
  zg (g_tx_sign (f47_2) (f47_4) (f47_1) a1) (
  zl (w_tx_sign (f47_2) (f47_4) (f47_1) a1) (fun v1 =>
  zg (g_tx_isDigit (f47_2) (f47_4) (f47_1) a1) (
  zl (w_tx_isDigit (f47_2) (f47_4) (f47_1) a1) (fun v2 =>
  bif !decide (v2 = 0) then
   bif decide (y < 16) then
    bif !decide (v1 = 42) then
     bif !decide (v1 = 126) then
      bif !decide (v1 = 33) then
       zbd (q_od_readThing a1 a20 a21 a22 (f16_6) (f16_7) (f47_1) (f47_2) (f47_3) (f47_4)) (fun v3 =>
       some (a17, a18, a19, ((v3.1)), ((v3.2.1)), ((v3.2.2.1)), (v3.2.2.2.1), (v3.2.2.2.2.1), f16_8, (v3.2.2.2.2.2.1), (v3.2.2.2.2.2.2.1), (v3.2.2.2.2.2.2.2)))
      else
       zbd (q_od_readWind a1 (f16_8) (f47_1) (f47_2) (f47_3) (f47_4)) (fun v4 =>
       some (a17, a18, a19, a20, a21, a22, f16_6, f16_7, (v4.1), (v4.2.1), (v4.2.2.1), (v4.2.2.2)))
     else
      zbd (q_od_readWatering a1 a17 a18 a19 (f47_1) (f47_2) (f47_3) (f47_4)) (fun v5 =>
      some (((v5.1)), ((v5.2.1)), ((v5.2.2.1)), a20, a21, a22, f16_6, f16_7, f16_8, (v5.2.2.2.1), (v5.2.2.2.2.1), (v5.2.2.2.2.2)))
    else
     zbd (q_od_readLighting a1 a17 a18 a19 (f47_1) (f47_2) (f47_3) (f47_4)) (fun v6 =>
     some (a17, ((v6.1)), ((v6.2.1)), a20, a21, a22, f16_6, f16_7, f16_8, (v6.2.2.1), (v6.2.2.2.1), (v6.2.2.2.2)))
   else
    zl (f0_tx_fail 4 (f47_4) (f47_2) (f47_3)) (fun v7 =>
    zl (f1_tx_fail 4 (f47_4) (f47_2) (f47_3)) (fun v8 =>
    some (a17, a18, a19, a20, a21, a22, f16_6, f16_7, f16_8, v7, v8, f47_4)))
  else
   bif decide (v1 = 42) then
    bif decide (y < 16) then
     bif !decide (v1 = 42) then
      bif !decide (v1 = 126) then
       bif !decide (v1 = 33) then
        zbd (q_od_readThing a1 a20 a21 a22 (f16_6) (f16_7) (f47_1) (f47_2) (f47_3) (f47_4)) (fun v9 =>
        some (a17, a18, a19, ((v9.1)), ((v9.2.1)), ((v9.2.2.1)), (v9.2.2.2.1), (v9.2.2.2.2.1), f16_8, (v9.2.2.2.2.2.1), (v9.2.2.2.2.2.2.1), (v9.2.2.2.2.2.2.2)))
       else
        zbd (q_od_readWind a1 (f16_8) (f47_1) (f47_2) (f47_3) (f47_4)) (fun v10 =>
        some (a17, a18, a19, a20, a21, a22, f16_6, f16_7, (v10.1), (v10.2.1), (v10.2.2.1), (v10.2.2.2)))
      else
       zbd (q_od_readWatering a1 a17 a18 a19 (f47_1) (f47_2) (f47_3) (f47_4)) (fun v11 =>
       some (((v11.1)), ((v11.2.1)), ((v11.2.2.1)), a20, a21, a22, f16_6, f16_7, f16_8, (v11.2.2.2.1), (v11.2.2.2.2.1), (v11.2.2.2.2.2)))
     else
      zbd (q_od_readLighting a1 a17 a18 a19 (f47_1) (f47_2) (f47_3) (f47_4)) (fun v12 =>
      some (a17, ((v12.1)), ((v12.2.1)), a20, a21, a22, f16_6, f16_7, f16_8, (v12.2.2.1), (v12.2.2.2.1), (v12.2.2.2.2)))
    else
     zl (f0_tx_fail 4 (f47_4) (f47_2) (f47_3)) (fun v13 =>
     zl (f1_tx_fail 4 (f47_4) (f47_2) (f47_3)) (fun v14 =>
     some (a17, a18, a19, a20, a21, a22, f16_6, f16_7, f16_8, v13, v14, f47_4)))
   else
    bif decide (v1 = 126) then
     bif decide (y < 16) then
      bif !decide (v1 = 42) then
       bif !decide (v1 = 126) then
        bif !decide (v1 = 33) then
         zbd (q_od_readThing a1 a20 a21 a22 (f16_6) (f16_7) (f47_1) (f47_2) (f47_3) (f47_4)) (fun v15 =>
         some (a17, a18, a19, ((v15.1)), ((v15.2.1)), ((v15.2.2.1)), (v15.2.2.2.1), (v15.2.2.2.2.1), f16_8, (v15.2.2.2.2.2.1), (v15.2.2.2.2.2.2.1), (v15.2.2.2.2.2.2.2)))
        else
         zbd (q_od_readWind a1 (f16_8) (f47_1) (f47_2) (f47_3) (f47_4)) (fun v16 =>
         some (a17, a18, a19, a20, a21, a22, f16_6, f16_7, (v16.1), (v16.2.1), (v16.2.2.1), (v16.2.2.2)))
       else
        zbd (q_od_readWatering a1 a17 a18 a19 (f47_1) (f47_2) (f47_3) (f47_4)) (fun v17 =>
        some (((v17.1)), ((v17.2.1)), ((v17.2.2.1)), a20, a21, a22, f16_6, f16_7, f16_8, (v17.2.2.2.1), (v17.2.2.2.2.1), (v17.2.2.2.2.2)))
      else
       zbd (q_od_readLighting a1 a17 a18 a19 (f47_1) (f47_2) (f47_3) (f47_4)) (fun v18 =>
       some (a17, ((v18.1)), ((v18.2.1)), a20, a21, a22, f16_6, f16_7, f16_8, (v18.2.2.1), (v18.2.2.2.1), (v18.2.2.2.2)))
     else
      zl (f0_tx_fail 4 (f47_4) (f47_2) (f47_3)) (fun v19 =>
      zl (f1_tx_fail 4 (f47_4) (f47_2) (f47_3)) (fun v20 =>
      some (a17, a18, a19, a20, a21, a22, f16_6, f16_7, f16_8, v19, v20, f47_4)))
    else
     bif !decide (v1 = 33) then
      zl (f0_tx_fail 1 (f47_4) (f47_2) (f47_3)) (fun v21 =>
      zl (f1_tx_fail 1 (f47_4) (f47_2) (f47_3)) (fun v22 =>
      some (a17, a18, a19, a20, a21, a22, f16_6, f16_7, f16_8, v21, v22, f47_4)))
     else
      bif decide (y < 16) then
       bif !decide (v1 = 42) then
        bif !decide (v1 = 126) then
         bif !decide (v1 = 33) then
          zbd (q_od_readThing a1 a20 a21 a22 (f16_6) (f16_7) (f47_1) (f47_2) (f47_3) (f47_4)) (fun v23 =>
          some (a17, a18, a19, ((v23.1)), ((v23.2.1)), ((v23.2.2.1)), (v23.2.2.2.1), (v23.2.2.2.2.1), f16_8, (v23.2.2.2.2.2.1), (v23.2.2.2.2.2.2.1), (v23.2.2.2.2.2.2.2)))
         else
          zbd (q_od_readWind a1 (f16_8) (f47_1) (f47_2) (f47_3) (f47_4)) (fun v24 =>
          some (a17, a18, a19, a20, a21, a22, f16_6, f16_7, (v24.1), (v24.2.1), (v24.2.2.1), (v24.2.2.2)))
        else
         zbd (q_od_readWatering a1 a17 a18 a19 (f47_1) (f47_2) (f47_3) (f47_4)) (fun v25 =>
         some (((v25.1)), ((v25.2.1)), ((v25.2.2.1)), a20, a21, a22, f16_6, f16_7, f16_8, (v25.2.2.2.1), (v25.2.2.2.2.1), (v25.2.2.2.2.2)))
       else
        zbd (q_od_readLighting a1 a17 a18 a19 (f47_1) (f47_2) (f47_3) (f47_4)) (fun v26 =>
        some (a17, ((v26.1)), ((v26.2.1)), a20, a21, a22, f16_6, f16_7, f16_8, (v26.2.2.1), (v26.2.2.2.1), (v26.2.2.2.2)))
      else
       zl (f0_tx_fail 4 (f47_4) (f47_2) (f47_3)) (fun v27 =>
       zl (f1_tx_fail 4 (f47_4) (f47_2) (f47_3)) (fun v28 =>
       some (a17, a18, a19, a20, a21, a22, f16_6, f16_7, f16_8, v27, v28, f47_4)))))))
def P_od_readLine (Q : Int32 → (Nat → Int32) → (Nat → Int32) → (Nat → Int32) → (Nat → Int32) → (Nat → Int32) → (Nat → Int32) → (Nat → Int32) → Int32 → Int32 → Int32 → Int32 → Int32 → Int32 → Int32 → Option ((Nat → Int32) × (Nat → Int32) × (Nat → Int32) × (Nat → Int32) × (Nat → Int32) × (Nat → Int32) × Int32 × Int32 × Int32 × Int32 × Int32 × Int32)) : zSp := fun as g => match as with
  | [.ref a, .ref b, .int y] => bif Nat.beq a 46 && Nat.beq b 16 && Nat.beq g.2.2.2.2.2.2 1 then zpe (Q y (g.1 1) (g.1 17) (g.1 18) (g.1 19) (g.1 20) (g.1 21) (g.1 22) (g.2.1 16 6) (g.2.1 16 7) (g.2.1 16 8) (g.2.1 47 1) (g.2.1 47 2) (g.2.1 47 3) (g.2.1 47 4)) (fun t => (none, ((zua (zua (zua (zua (zua (zua g.1 17 t.1) 18 t.2.1) 19 t.2.2.1) 20 t.2.2.2.1) 21 t.2.2.2.2.1) 22 t.2.2.2.2.2.1), (zuf (zuf (zuf (zuf (zuf (zuf g.2.1 16 6 t.2.2.2.2.2.2.1) 16 7 t.2.2.2.2.2.2.2.1) 16 8 t.2.2.2.2.2.2.2.2.1) 47 2 t.2.2.2.2.2.2.2.2.2.1) 47 3 t.2.2.2.2.2.2.2.2.2.2.1) 47 4 t.2.2.2.2.2.2.2.2.2.2.2), g.2.2))) else none
  | _ => none
noncomputable abbrev S_od_readLine : zSp := P_od_readLine q_od_readLine
theorem hF7_od_readLine (F : Nat → Nat → Int32) (w0 w1 : Int32) : (zuf (zuf F 47 2 w0) 47 3 w1) = (zuf (zuf (zuf (zuf (zuf (zuf F 16 6 (F 16 6)) 16 7 (F 16 7)) 16 8 (F 16 8)) 47 2 w0) 47 3 w1) 47 4 (F 47 4)) := zufk_ix F [((47, 2), w0), ((47, 3), w1)] [((16, 6), none), ((16, 7), none), ((16, 8), none), ((47, 2), some 0), ((47, 3), some 1), ((47, 4), none)] rfl
theorem hA6_od_readLine (F : Nat → Nat → Int32) (w0 w1 : Nat → Int32) : (zua (zua F 18 w0) 19 w1) = (zua (zua (zua (zua (zua (zua F 17 (F 17)) 18 w0) 19 w1) 20 (F 20)) 21 (F 21)) 22 (F 22)) := zuak_ix F [(18, w0), (19, w1)] [(17, none), (18, some 0), (19, some 1), (20, none), (21, none), (22, none)] rfl
theorem hF5_od_readLine (F : Nat → Nat → Int32) (w0 w1 w2 : Int32) : (zuf (zuf (zuf F 47 2 w0) 47 3 w1) 47 4 w2) = (zuf (zuf (zuf (zuf (zuf (zuf F 16 6 (F 16 6)) 16 7 (F 16 7)) 16 8 (F 16 8)) 47 2 w0) 47 3 w1) 47 4 w2) := zufk_ix F [((47, 2), w0), ((47, 3), w1), ((47, 4), w2)] [((16, 6), none), ((16, 7), none), ((16, 8), none), ((47, 2), some 0), ((47, 3), some 1), ((47, 4), some 2)] rfl
theorem hA4_od_readLine (F : Nat → Nat → Int32) (w0 w1 w2 : Nat → Int32) : (zua (zua (zua F 17 w0) 18 w1) 19 w2) = (zua (zua (zua (zua (zua (zua F 17 w0) 18 w1) 19 w2) 20 (F 20)) 21 (F 21)) 22 (F 22)) := zuak_ix F [(17, w0), (18, w1), (19, w2)] [(17, some 0), (18, some 1), (19, some 2), (20, none), (21, none), (22, none)] rfl
theorem hF3_od_readLine (F : Nat → Nat → Int32) (w0 w1 w2 w3 : Int32) : (zuf (zuf (zuf (zuf F 16 8 w0) 47 2 w1) 47 3 w2) 47 4 w3) = (zuf (zuf (zuf (zuf (zuf (zuf F 16 6 (F 16 6)) 16 7 (F 16 7)) 16 8 w0) 47 2 w1) 47 3 w2) 47 4 w3) := zufk_ix F [((16, 8), w0), ((47, 2), w1), ((47, 3), w2), ((47, 4), w3)] [((16, 6), none), ((16, 7), none), ((16, 8), some 0), ((47, 2), some 1), ((47, 3), some 2), ((47, 4), some 3)] rfl
theorem hA2_od_readLine (F : Nat → Nat → Int32) : F = (zua (zua (zua (zua (zua (zua F 17 (F 17)) 18 (F 18)) 19 (F 19)) 20 (F 20)) 21 (F 21)) 22 (F 22)) := zuak_ix F [] [(17, none), (18, none), (19, none), (20, none), (21, none), (22, none)] rfl
theorem hF1_od_readLine (F : Nat → Nat → Int32) (w0 w1 w2 w3 w4 : Int32) : (zuf (zuf (zuf (zuf (zuf F 16 6 w0) 16 7 w1) 47 2 w2) 47 3 w3) 47 4 w4) = (zuf (zuf (zuf (zuf (zuf (zuf F 16 6 w0) 16 7 w1) 16 8 (F 16 8)) 47 2 w2) 47 3 w3) 47 4 w4) := zufk_ix F [((16, 6), w0), ((16, 7), w1), ((47, 2), w2), ((47, 3), w3), ((47, 4), w4)] [((16, 6), some 0), ((16, 7), some 1), ((16, 8), none), ((47, 2), some 2), ((47, 3), some 3), ((47, 4), some 4)] rfl
theorem hA0_od_readLine (F : Nat → Nat → Int32) (w0 w1 w2 : Nat → Int32) : (zua (zua (zua F 20 w0) 21 w1) 22 w2) = (zua (zua (zua (zua (zua (zua F 17 (F 17)) 18 (F 18)) 19 (F 19)) 20 w0) 21 w1) 22 w2) := zuak_ix F [(20, w0), (21, w1), (22, w2)] [(17, none), (18, none), (19, none), (20, some 0), (21, some 1), (22, some 2)] rfl
def O_od_readLine (ar fi : Nat → Nat → Int32) (m1 : Nat) (m2 : Nat) (m3 : Nat) (m4 : Nat) (t : T_od_readLine) : zO2 := match t with
  | (t0, t1, t2, t3, t4, t5, t6, t7, t8, t9, t10, t11) => (none, ((zua (zua (zua (zua (zua (zua ar 17 t0) 18 t1) 19 t2) 20 t3) 21 t4) 22 t5), (zuf (zuf (zuf (zuf (zuf (zuf fi 16 6 t6) 16 7 t7) 16 8 t8) 47 2 t9) 47 3 t10) 47 4 t11), (m1, m2, m3, m4, 1)))
set_option maxRecDepth 1000000 in
theorem t_od_readLine {X : Nat × (Nat → Int32)} {ar fi : Nat → Nat → Int32} {m1 m2 m3 m4 : Nat} {y : Int32} {G_tx_sign : Int32 → Int32 → Int32 → (Nat → Int32) → Bool} {W_tx_sign : Int32 → Int32 → Int32 → (Nat → Int32) → Int32} {G_tx_isDigit : Int32 → Int32 → Int32 → (Nat → Int32) → Bool} {W_tx_isDigit : Int32 → Int32 → Int32 → (Nat → Int32) → Int32} {F0_tx_fail : Int32 → Int32 → Int32 → Int32 → Int32} {F1_tx_fail : Int32 → Int32 → Int32 → Int32 → Int32} {Q_od_readLighting : (Nat → Int32) → (Nat → Int32) → (Nat → Int32) → (Nat → Int32) → Int32 → Int32 → Int32 → Int32 → Option ((Nat → Int32) × (Nat → Int32) × Int32 × Int32 × Int32)} {Q_od_readWatering : (Nat → Int32) → (Nat → Int32) → (Nat → Int32) → (Nat → Int32) → Int32 → Int32 → Int32 → Int32 → Option ((Nat → Int32) × (Nat → Int32) × (Nat → Int32) × Int32 × Int32 × Int32)} {Q_od_readWind : (Nat → Int32) → Int32 → Int32 → Int32 → Int32 → Int32 → Option (Int32 × Int32 × Int32 × Int32)} {Q_od_readThing : (Nat → Int32) → (Nat → Int32) → (Nat → Int32) → (Nat → Int32) → Int32 → Int32 → Int32 → Int32 → Int32 → Int32 → Option ((Nat → Int32) × (Nat → Int32) × (Nat → Int32) × Int32 × Int32 × Int32 × Int32 × Int32)} : zseg X zFT (zEx 93 (P_tx_sign G_tx_sign W_tx_sign) (zEx 94 (P_tx_isDigit G_tx_isDigit W_tx_isDigit) (zEx 97 (P_tx_fail F0_tx_fail F1_tx_fail) (zEx 58 (P_od_readLighting Q_od_readLighting) (zEx 59 (P_od_readWatering Q_od_readWatering) (zEx 60 (P_od_readWind Q_od_readWind) (zEx 61 (P_od_readThing Q_od_readThing) zE0))))))) zc_57 (fun p => false) 400 0 [.ref 46, .ref 16, .int y] [] (ar, fi, (m1, m2, m3, m4, 1)) = (
  zg (G_tx_sign (fi 47 2) (fi 47 4) (fi 47 1) (ar 1)) (
  zl (W_tx_sign (fi 47 2) (fi 47 4) (fi 47 1) (ar 1)) (fun v1 =>
  zg (G_tx_isDigit (fi 47 2) (fi 47 4) (fi 47 1) (ar 1)) (
  zl (W_tx_isDigit (fi 47 2) (fi 47 4) (fi 47 1) (ar 1)) (fun v2 =>
  bif !decide (v2 = 0) then
   bif decide (y < 16) then
    bif !decide (v1 = 42) then
     bif !decide (v1 = 126) then
      bif !decide (v1 = 33) then
       zl (Q_od_readThing (ar 1) (ar 20) (ar 21) (ar 22) (fi 16 6) (fi 16 7) (fi 47 1) (fi 47 2) (fi 47 3) (fi 47 4)) (fun v3 => zg v3.isSome (
       some (.inr (none, ((zua (zua (zua ar 20 (((zgt v3).1))) 21 (((zgt v3).2.1))) 22 (((zgt v3).2.2.1))), (zuf (zuf (zuf (zuf (zuf fi 16 6 (((zgt v3).2.2.2.1))) 16 7 (((zgt v3).2.2.2.2.1))) 47 2 (((zgt v3).2.2.2.2.2.1))) 47 3 (((zgt v3).2.2.2.2.2.2.1))) 47 4 (((zgt v3).2.2.2.2.2.2.2))), (m1, m2, m3, m4, 1))))))
      else
       zl (Q_od_readWind (ar 1) (fi 16 8) (fi 47 1) (fi 47 2) (fi 47 3) (fi 47 4)) (fun v4 => zg v4.isSome (
       some (.inr (none, (ar, (zuf (zuf (zuf (zuf fi 16 8 (((zgt v4).1))) 47 2 (((zgt v4).2.1))) 47 3 (((zgt v4).2.2.1))) 47 4 (((zgt v4).2.2.2))), (m1, m2, m3, m4, 1))))))
     else
      zl (Q_od_readWatering (ar 1) (ar 17) (ar 18) (ar 19) (fi 47 1) (fi 47 2) (fi 47 3) (fi 47 4)) (fun v5 => zg v5.isSome (
      some (.inr (none, ((zua (zua (zua ar 17 (((zgt v5).1))) 18 (((zgt v5).2.1))) 19 (((zgt v5).2.2.1))), (zuf (zuf (zuf fi 47 2 (((zgt v5).2.2.2.1))) 47 3 (((zgt v5).2.2.2.2.1))) 47 4 (((zgt v5).2.2.2.2.2))), (m1, m2, m3, m4, 1))))))
    else
     zl (Q_od_readLighting (ar 1) (ar 17) (ar 18) (ar 19) (fi 47 1) (fi 47 2) (fi 47 3) (fi 47 4)) (fun v6 => zg v6.isSome (
     some (.inr (none, ((zua (zua ar 18 (((zgt v6).1))) 19 (((zgt v6).2.1))), (zuf (zuf (zuf fi 47 2 (((zgt v6).2.2.1))) 47 3 (((zgt v6).2.2.2.1))) 47 4 (((zgt v6).2.2.2.2))), (m1, m2, m3, m4, 1))))))
   else
    zl (F0_tx_fail 4 (fi 47 4) (fi 47 2) (fi 47 3)) (fun v7 =>
    zl (F1_tx_fail 4 (fi 47 4) (fi 47 2) (fi 47 3)) (fun v8 =>
    some (.inr (none, (ar, (zuf (zuf fi 47 2 v7) 47 3 v8), (m1, m2, m3, m4, 1))))))
  else
   bif decide (v1 = 42) then
    bif decide (y < 16) then
     bif !decide (v1 = 42) then
      bif !decide (v1 = 126) then
       bif !decide (v1 = 33) then
        zl (Q_od_readThing (ar 1) (ar 20) (ar 21) (ar 22) (fi 16 6) (fi 16 7) (fi 47 1) (fi 47 2) (fi 47 3) (fi 47 4)) (fun v9 => zg v9.isSome (
        some (.inr (none, ((zua (zua (zua ar 20 (((zgt v9).1))) 21 (((zgt v9).2.1))) 22 (((zgt v9).2.2.1))), (zuf (zuf (zuf (zuf (zuf fi 16 6 (((zgt v9).2.2.2.1))) 16 7 (((zgt v9).2.2.2.2.1))) 47 2 (((zgt v9).2.2.2.2.2.1))) 47 3 (((zgt v9).2.2.2.2.2.2.1))) 47 4 (((zgt v9).2.2.2.2.2.2.2))), (m1, m2, m3, m4, 1))))))
       else
        zl (Q_od_readWind (ar 1) (fi 16 8) (fi 47 1) (fi 47 2) (fi 47 3) (fi 47 4)) (fun v10 => zg v10.isSome (
        some (.inr (none, (ar, (zuf (zuf (zuf (zuf fi 16 8 (((zgt v10).1))) 47 2 (((zgt v10).2.1))) 47 3 (((zgt v10).2.2.1))) 47 4 (((zgt v10).2.2.2))), (m1, m2, m3, m4, 1))))))
      else
       zl (Q_od_readWatering (ar 1) (ar 17) (ar 18) (ar 19) (fi 47 1) (fi 47 2) (fi 47 3) (fi 47 4)) (fun v11 => zg v11.isSome (
       some (.inr (none, ((zua (zua (zua ar 17 (((zgt v11).1))) 18 (((zgt v11).2.1))) 19 (((zgt v11).2.2.1))), (zuf (zuf (zuf fi 47 2 (((zgt v11).2.2.2.1))) 47 3 (((zgt v11).2.2.2.2.1))) 47 4 (((zgt v11).2.2.2.2.2))), (m1, m2, m3, m4, 1))))))
     else
      zl (Q_od_readLighting (ar 1) (ar 17) (ar 18) (ar 19) (fi 47 1) (fi 47 2) (fi 47 3) (fi 47 4)) (fun v12 => zg v12.isSome (
      some (.inr (none, ((zua (zua ar 18 (((zgt v12).1))) 19 (((zgt v12).2.1))), (zuf (zuf (zuf fi 47 2 (((zgt v12).2.2.1))) 47 3 (((zgt v12).2.2.2.1))) 47 4 (((zgt v12).2.2.2.2))), (m1, m2, m3, m4, 1))))))
    else
     zl (F0_tx_fail 4 (fi 47 4) (fi 47 2) (fi 47 3)) (fun v13 =>
     zl (F1_tx_fail 4 (fi 47 4) (fi 47 2) (fi 47 3)) (fun v14 =>
     some (.inr (none, (ar, (zuf (zuf fi 47 2 v13) 47 3 v14), (m1, m2, m3, m4, 1))))))
   else
    bif decide (v1 = 126) then
     bif decide (y < 16) then
      bif !decide (v1 = 42) then
       bif !decide (v1 = 126) then
        bif !decide (v1 = 33) then
         zl (Q_od_readThing (ar 1) (ar 20) (ar 21) (ar 22) (fi 16 6) (fi 16 7) (fi 47 1) (fi 47 2) (fi 47 3) (fi 47 4)) (fun v15 => zg v15.isSome (
         some (.inr (none, ((zua (zua (zua ar 20 (((zgt v15).1))) 21 (((zgt v15).2.1))) 22 (((zgt v15).2.2.1))), (zuf (zuf (zuf (zuf (zuf fi 16 6 (((zgt v15).2.2.2.1))) 16 7 (((zgt v15).2.2.2.2.1))) 47 2 (((zgt v15).2.2.2.2.2.1))) 47 3 (((zgt v15).2.2.2.2.2.2.1))) 47 4 (((zgt v15).2.2.2.2.2.2.2))), (m1, m2, m3, m4, 1))))))
        else
         zl (Q_od_readWind (ar 1) (fi 16 8) (fi 47 1) (fi 47 2) (fi 47 3) (fi 47 4)) (fun v16 => zg v16.isSome (
         some (.inr (none, (ar, (zuf (zuf (zuf (zuf fi 16 8 (((zgt v16).1))) 47 2 (((zgt v16).2.1))) 47 3 (((zgt v16).2.2.1))) 47 4 (((zgt v16).2.2.2))), (m1, m2, m3, m4, 1))))))
       else
        zl (Q_od_readWatering (ar 1) (ar 17) (ar 18) (ar 19) (fi 47 1) (fi 47 2) (fi 47 3) (fi 47 4)) (fun v17 => zg v17.isSome (
        some (.inr (none, ((zua (zua (zua ar 17 (((zgt v17).1))) 18 (((zgt v17).2.1))) 19 (((zgt v17).2.2.1))), (zuf (zuf (zuf fi 47 2 (((zgt v17).2.2.2.1))) 47 3 (((zgt v17).2.2.2.2.1))) 47 4 (((zgt v17).2.2.2.2.2))), (m1, m2, m3, m4, 1))))))
      else
       zl (Q_od_readLighting (ar 1) (ar 17) (ar 18) (ar 19) (fi 47 1) (fi 47 2) (fi 47 3) (fi 47 4)) (fun v18 => zg v18.isSome (
       some (.inr (none, ((zua (zua ar 18 (((zgt v18).1))) 19 (((zgt v18).2.1))), (zuf (zuf (zuf fi 47 2 (((zgt v18).2.2.1))) 47 3 (((zgt v18).2.2.2.1))) 47 4 (((zgt v18).2.2.2.2))), (m1, m2, m3, m4, 1))))))
     else
      zl (F0_tx_fail 4 (fi 47 4) (fi 47 2) (fi 47 3)) (fun v19 =>
      zl (F1_tx_fail 4 (fi 47 4) (fi 47 2) (fi 47 3)) (fun v20 =>
      some (.inr (none, (ar, (zuf (zuf fi 47 2 v19) 47 3 v20), (m1, m2, m3, m4, 1))))))
    else
     bif !decide (v1 = 33) then
      zl (F0_tx_fail 1 (fi 47 4) (fi 47 2) (fi 47 3)) (fun v21 =>
      zl (F1_tx_fail 1 (fi 47 4) (fi 47 2) (fi 47 3)) (fun v22 =>
      some (.inr (none, (ar, (zuf (zuf fi 47 2 v21) 47 3 v22), (m1, m2, m3, m4, 1))))))
     else
      bif decide (y < 16) then
       bif !decide (v1 = 42) then
        bif !decide (v1 = 126) then
         bif !decide (v1 = 33) then
          zl (Q_od_readThing (ar 1) (ar 20) (ar 21) (ar 22) (fi 16 6) (fi 16 7) (fi 47 1) (fi 47 2) (fi 47 3) (fi 47 4)) (fun v23 => zg v23.isSome (
          some (.inr (none, ((zua (zua (zua ar 20 (((zgt v23).1))) 21 (((zgt v23).2.1))) 22 (((zgt v23).2.2.1))), (zuf (zuf (zuf (zuf (zuf fi 16 6 (((zgt v23).2.2.2.1))) 16 7 (((zgt v23).2.2.2.2.1))) 47 2 (((zgt v23).2.2.2.2.2.1))) 47 3 (((zgt v23).2.2.2.2.2.2.1))) 47 4 (((zgt v23).2.2.2.2.2.2.2))), (m1, m2, m3, m4, 1))))))
         else
          zl (Q_od_readWind (ar 1) (fi 16 8) (fi 47 1) (fi 47 2) (fi 47 3) (fi 47 4)) (fun v24 => zg v24.isSome (
          some (.inr (none, (ar, (zuf (zuf (zuf (zuf fi 16 8 (((zgt v24).1))) 47 2 (((zgt v24).2.1))) 47 3 (((zgt v24).2.2.1))) 47 4 (((zgt v24).2.2.2))), (m1, m2, m3, m4, 1))))))
        else
         zl (Q_od_readWatering (ar 1) (ar 17) (ar 18) (ar 19) (fi 47 1) (fi 47 2) (fi 47 3) (fi 47 4)) (fun v25 => zg v25.isSome (
         some (.inr (none, ((zua (zua (zua ar 17 (((zgt v25).1))) 18 (((zgt v25).2.1))) 19 (((zgt v25).2.2.1))), (zuf (zuf (zuf fi 47 2 (((zgt v25).2.2.2.1))) 47 3 (((zgt v25).2.2.2.2.1))) 47 4 (((zgt v25).2.2.2.2.2))), (m1, m2, m3, m4, 1))))))
       else
        zl (Q_od_readLighting (ar 1) (ar 17) (ar 18) (ar 19) (fi 47 1) (fi 47 2) (fi 47 3) (fi 47 4)) (fun v26 => zg v26.isSome (
        some (.inr (none, ((zua (zua ar 18 (((zgt v26).1))) 19 (((zgt v26).2.1))), (zuf (zuf (zuf fi 47 2 (((zgt v26).2.2.1))) 47 3 (((zgt v26).2.2.2.1))) 47 4 (((zgt v26).2.2.2.2))), (m1, m2, m3, m4, 1))))))
      else
       zl (F0_tx_fail 4 (fi 47 4) (fi 47 2) (fi 47 3)) (fun v27 =>
       zl (F1_tx_fail 4 (fi 47 4) (fi 47 2) (fi 47 3)) (fun v28 =>
       some (.inr (none, (ar, (zuf (zuf fi 47 2 v27) 47 3 v28), (m1, m2, m3, m4, 1)))))))))) : Option ((Nat × List Value × List Value × zH2) ⊕ zO2)) := by with_unfolding_all rfl
set_option maxRecDepth 20000 in
theorem e_od_readLine {X : Nat × (Nat → Int32)} {ar fi : Nat → Nat → Int32} {m1 m2 m3 m4 : Nat} {y : Int32} {o : zO2} : ∀ (q : T_od_readLine), q_od_readLine y (ar 1) (ar 17) (ar 18) (ar 19) (ar 20) (ar 21) (ar 22) (fi 16 6) (fi 16 7) (fi 16 8) (fi 47 1) (fi 47 2) (fi 47 3) (fi 47 4) = some q → (fun t => O_od_readLine ar fi m1 m2 m3 m4 t = o) q → zR2 X zFT (zEx 93 S_tx_sign (zEx 94 S_tx_isDigit (zEx 97 S_tx_fail (zEx 58 S_od_readLighting (zEx 59 S_od_readWatering (zEx 60 S_od_readWind (zEx 61 S_od_readThing zE0))))))) zc_57 0 [.ref 46, .ref 16, .int y] [] (ar, fi, (m1, m2, m3, m4, 1)) o := by
  intro q h hq
  unfold q_od_readLine at h
  refine zT_seg t_od_readLine ?_
  obtain ⟨TT, hTT⟩ : ∃ T, T = zT X zFT (zEx 93 S_tx_sign (zEx 94 S_tx_isDigit (zEx 97 S_tx_fail (zEx 58 S_od_readLighting (zEx 59 S_od_readWatering (zEx 60 S_od_readWind (zEx 61 S_od_readThing zE0))))))) zc_57 o := ⟨_, rfl⟩
  rw [← hTT]
  refine zg_el h (fun hg h => zU_g hTT hg ?_)
  refine zl_el h (fun h => zU_l hTT ?_)
  refine zg_el h (fun hg h => zU_g hTT hg ?_)
  refine zl_el h (fun h => zU_l hTT ?_)
  refine zb_el h (fun hb h => zU_t hTT hb ?_) (fun hb h => zU_f hTT hb ?_)
  · refine zb_el h (fun hb h => zU_t hTT hb ?_) (fun hb h => zU_f hTT hb ?_)
    · refine zb_el h (fun hb h => zU_t hTT hb ?_) (fun hb h => zU_f hTT hb ?_)
      · refine zb_el h (fun hb h => zU_t hTT hb ?_) (fun hb h => zU_f hTT hb ?_)
        · refine zb_el h (fun hb h => zU_t hTT hb ?_) (fun hb h => zU_f hTT hb ?_)
          · refine zbd_el h (fun v3 hv h => zU_c hTT hv ?_)
            rw [hTT]
            have hz := zsi (P := (fun t => O_od_readLine ar fi m1 m2 m3 m4 t = o)) h hq
            refine (zO_mk ?_ ?_).trans hz
            · first | with_reducible rfl | exact hA0_od_readLine _ _ _ _
            · first | with_reducible rfl | exact hF1_od_readLine _ _ _ _ _ _
          · refine zbd_el h (fun v4 hv h => zU_c hTT hv ?_)
            rw [hTT]
            have hz := zsi (P := (fun t => O_od_readLine ar fi m1 m2 m3 m4 t = o)) h hq
            refine (zO_mk ?_ ?_).trans hz
            · first | with_reducible rfl | exact hA2_od_readLine _
            · first | with_reducible rfl | exact hF3_od_readLine _ _ _ _ _
        · refine zbd_el h (fun v5 hv h => zU_c hTT hv ?_)
          rw [hTT]
          have hz := zsi (P := (fun t => O_od_readLine ar fi m1 m2 m3 m4 t = o)) h hq
          refine (zO_mk ?_ ?_).trans hz
          · first | with_reducible rfl | exact hA4_od_readLine _ _ _ _
          · first | with_reducible rfl | exact hF5_od_readLine _ _ _ _
      · refine zbd_el h (fun v6 hv h => zU_c hTT hv ?_)
        rw [hTT]
        have hz := zsi (P := (fun t => O_od_readLine ar fi m1 m2 m3 m4 t = o)) h hq
        refine (zO_mk ?_ ?_).trans hz
        · first | with_reducible rfl | exact hA6_od_readLine _ _ _
        · first | with_reducible rfl | exact hF5_od_readLine _ _ _ _
    · refine zl_el h (fun h => zU_l hTT ?_)
      refine zl_el h (fun h => zU_l hTT ?_)
      rw [hTT]
      have hz := zsi (P := (fun t => O_od_readLine ar fi m1 m2 m3 m4 t = o)) h hq
      refine (zO_mk ?_ ?_).trans hz
      · first | with_reducible rfl | exact hA2_od_readLine _
      · first | with_reducible rfl | exact hF7_od_readLine _ _ _
  · refine zb_el h (fun hb h => zU_t hTT hb ?_) (fun hb h => zU_f hTT hb ?_)
    · refine zb_el h (fun hb h => zU_t hTT hb ?_) (fun hb h => zU_f hTT hb ?_)
      · refine zb_el h (fun hb h => zU_t hTT hb ?_) (fun hb h => zU_f hTT hb ?_)
        · refine zb_el h (fun hb h => zU_t hTT hb ?_) (fun hb h => zU_f hTT hb ?_)
          · refine zb_el h (fun hb h => zU_t hTT hb ?_) (fun hb h => zU_f hTT hb ?_)
            · refine zbd_el h (fun v9 hv h => zU_c hTT hv ?_)
              rw [hTT]
              have hz := zsi (P := (fun t => O_od_readLine ar fi m1 m2 m3 m4 t = o)) h hq
              refine (zO_mk ?_ ?_).trans hz
              · first | with_reducible rfl | exact hA0_od_readLine _ _ _ _
              · first | with_reducible rfl | exact hF1_od_readLine _ _ _ _ _ _
            · refine zbd_el h (fun v10 hv h => zU_c hTT hv ?_)
              rw [hTT]
              have hz := zsi (P := (fun t => O_od_readLine ar fi m1 m2 m3 m4 t = o)) h hq
              refine (zO_mk ?_ ?_).trans hz
              · first | with_reducible rfl | exact hA2_od_readLine _
              · first | with_reducible rfl | exact hF3_od_readLine _ _ _ _ _
          · refine zbd_el h (fun v11 hv h => zU_c hTT hv ?_)
            rw [hTT]
            have hz := zsi (P := (fun t => O_od_readLine ar fi m1 m2 m3 m4 t = o)) h hq
            refine (zO_mk ?_ ?_).trans hz
            · first | with_reducible rfl | exact hA4_od_readLine _ _ _ _
            · first | with_reducible rfl | exact hF5_od_readLine _ _ _ _
        · refine zbd_el h (fun v12 hv h => zU_c hTT hv ?_)
          rw [hTT]
          have hz := zsi (P := (fun t => O_od_readLine ar fi m1 m2 m3 m4 t = o)) h hq
          refine (zO_mk ?_ ?_).trans hz
          · first | with_reducible rfl | exact hA6_od_readLine _ _ _
          · first | with_reducible rfl | exact hF5_od_readLine _ _ _ _
      · refine zl_el h (fun h => zU_l hTT ?_)
        refine zl_el h (fun h => zU_l hTT ?_)
        rw [hTT]
        have hz := zsi (P := (fun t => O_od_readLine ar fi m1 m2 m3 m4 t = o)) h hq
        refine (zO_mk ?_ ?_).trans hz
        · first | with_reducible rfl | exact hA2_od_readLine _
        · first | with_reducible rfl | exact hF7_od_readLine _ _ _
    · refine zb_el h (fun hb h => zU_t hTT hb ?_) (fun hb h => zU_f hTT hb ?_)
      · refine zb_el h (fun hb h => zU_t hTT hb ?_) (fun hb h => zU_f hTT hb ?_)
        · refine zb_el h (fun hb h => zU_t hTT hb ?_) (fun hb h => zU_f hTT hb ?_)
          · refine zb_el h (fun hb h => zU_t hTT hb ?_) (fun hb h => zU_f hTT hb ?_)
            · refine zb_el h (fun hb h => zU_t hTT hb ?_) (fun hb h => zU_f hTT hb ?_)
              · refine zbd_el h (fun v15 hv h => zU_c hTT hv ?_)
                rw [hTT]
                have hz := zsi (P := (fun t => O_od_readLine ar fi m1 m2 m3 m4 t = o)) h hq
                refine (zO_mk ?_ ?_).trans hz
                · first | with_reducible rfl | exact hA0_od_readLine _ _ _ _
                · first | with_reducible rfl | exact hF1_od_readLine _ _ _ _ _ _
              · refine zbd_el h (fun v16 hv h => zU_c hTT hv ?_)
                rw [hTT]
                have hz := zsi (P := (fun t => O_od_readLine ar fi m1 m2 m3 m4 t = o)) h hq
                refine (zO_mk ?_ ?_).trans hz
                · first | with_reducible rfl | exact hA2_od_readLine _
                · first | with_reducible rfl | exact hF3_od_readLine _ _ _ _ _
            · refine zbd_el h (fun v17 hv h => zU_c hTT hv ?_)
              rw [hTT]
              have hz := zsi (P := (fun t => O_od_readLine ar fi m1 m2 m3 m4 t = o)) h hq
              refine (zO_mk ?_ ?_).trans hz
              · first | with_reducible rfl | exact hA4_od_readLine _ _ _ _
              · first | with_reducible rfl | exact hF5_od_readLine _ _ _ _
          · refine zbd_el h (fun v18 hv h => zU_c hTT hv ?_)
            rw [hTT]
            have hz := zsi (P := (fun t => O_od_readLine ar fi m1 m2 m3 m4 t = o)) h hq
            refine (zO_mk ?_ ?_).trans hz
            · first | with_reducible rfl | exact hA6_od_readLine _ _ _
            · first | with_reducible rfl | exact hF5_od_readLine _ _ _ _
        · refine zl_el h (fun h => zU_l hTT ?_)
          refine zl_el h (fun h => zU_l hTT ?_)
          rw [hTT]
          have hz := zsi (P := (fun t => O_od_readLine ar fi m1 m2 m3 m4 t = o)) h hq
          refine (zO_mk ?_ ?_).trans hz
          · first | with_reducible rfl | exact hA2_od_readLine _
          · first | with_reducible rfl | exact hF7_od_readLine _ _ _
      · refine zb_el h (fun hb h => zU_t hTT hb ?_) (fun hb h => zU_f hTT hb ?_)
        · refine zl_el h (fun h => zU_l hTT ?_)
          refine zl_el h (fun h => zU_l hTT ?_)
          rw [hTT]
          have hz := zsi (P := (fun t => O_od_readLine ar fi m1 m2 m3 m4 t = o)) h hq
          refine (zO_mk ?_ ?_).trans hz
          · first | with_reducible rfl | exact hA2_od_readLine _
          · first | with_reducible rfl | exact hF7_od_readLine _ _ _
        · refine zb_el h (fun hb h => zU_t hTT hb ?_) (fun hb h => zU_f hTT hb ?_)
          · refine zb_el h (fun hb h => zU_t hTT hb ?_) (fun hb h => zU_f hTT hb ?_)
            · refine zb_el h (fun hb h => zU_t hTT hb ?_) (fun hb h => zU_f hTT hb ?_)
              · refine zb_el h (fun hb h => zU_t hTT hb ?_) (fun hb h => zU_f hTT hb ?_)
                · refine zbd_el h (fun v23 hv h => zU_c hTT hv ?_)
                  rw [hTT]
                  have hz := zsi (P := (fun t => O_od_readLine ar fi m1 m2 m3 m4 t = o)) h hq
                  refine (zO_mk ?_ ?_).trans hz
                  · first | with_reducible rfl | exact hA0_od_readLine _ _ _ _
                  · first | with_reducible rfl | exact hF1_od_readLine _ _ _ _ _ _
                · refine zbd_el h (fun v24 hv h => zU_c hTT hv ?_)
                  rw [hTT]
                  have hz := zsi (P := (fun t => O_od_readLine ar fi m1 m2 m3 m4 t = o)) h hq
                  refine (zO_mk ?_ ?_).trans hz
                  · first | with_reducible rfl | exact hA2_od_readLine _
                  · first | with_reducible rfl | exact hF3_od_readLine _ _ _ _ _
              · refine zbd_el h (fun v25 hv h => zU_c hTT hv ?_)
                rw [hTT]
                have hz := zsi (P := (fun t => O_od_readLine ar fi m1 m2 m3 m4 t = o)) h hq
                refine (zO_mk ?_ ?_).trans hz
                · first | with_reducible rfl | exact hA4_od_readLine _ _ _ _
                · first | with_reducible rfl | exact hF5_od_readLine _ _ _ _
            · refine zbd_el h (fun v26 hv h => zU_c hTT hv ?_)
              rw [hTT]
              have hz := zsi (P := (fun t => O_od_readLine ar fi m1 m2 m3 m4 t = o)) h hq
              refine (zO_mk ?_ ?_).trans hz
              · first | with_reducible rfl | exact hA6_od_readLine _ _ _
              · first | with_reducible rfl | exact hF5_od_readLine _ _ _ _
          · refine zl_el h (fun h => zU_l hTT ?_)
            refine zl_el h (fun h => zU_l hTT ?_)
            rw [hTT]
            have hz := zsi (P := (fun t => O_od_readLine ar fi m1 m2 m3 m4 t = o)) h hq
            refine (zO_mk ?_ ?_).trans hz
            · first | with_reducible rfl | exact hA2_od_readLine _
            · first | with_reducible rfl | exact hF7_od_readLine _ _ _
theorem ok_od_readLine (X : Nat × (Nat → Int32)) : zOkS X 57 S_od_readLine 6 := zOkS_new (zOkE_cons (ok_tx_sign X) (by decide) (zOkE_cons (ok_tx_isDigit X) (by decide) (zOkE_cons (ok_tx_fail X) (by decide) (zOkE_cons (ok_od_readLighting X) (by decide) (zOkE_cons (ok_od_readWatering X) (by decide) (zOkE_cons (ok_od_readWind X) (by decide) (zOkE_cons (ok_od_readThing X) (by decide) (zOkE_nil X 5)))))))) (by
  intro args g o h
  obtain ⟨ar, fi, m1, m2, m3, m4, m5⟩ := g
  unfold S_od_readLine P_od_readLine at h
  split at h
  · refine zb_el h (fun hI0 k0 => ?_) (fun _ h10 => ?_)
    · try simp only [Bool.and_eq_true] at hI0
      obtain ⟨⟨j0, j1⟩, j2⟩ := hI0
      have e0 := Nat.eq_of_beq_eq_true j0
      subst e0
      have e1 := Nat.eq_of_beq_eq_true j1
      subst e1
      have e9 : m5 = 1 := Nat.eq_of_beq_eq_true j2
      subst e9
      exact zpe_el k0 (fun t ht ho => by obtain ⟨t0, t1, t2, t3, t4, t5, t6, t7, t8, t9, t10, t11⟩ := t; exact e_od_readLine _ ht ho)
    · cases h10
  · cases h)
