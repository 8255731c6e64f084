abbrev T_od_readLine : Type := (Nat → Int32) × (Nat → Int32) × (Nat → Int32) × (Nat → Int32) × (Nat → Int32) × (Nat → Int32) × Int32 × Int32 × Int32 × Int32 × Int32 × Int32
noncomputable def q_od_readLine (y : Int32) (a1 : Nat → Int32) (a17 : Nat → Int32) (a18 : Nat → Int32) (a19 : Nat → Int32) (a20 : Nat → Int32) (a21 : Nat → Int32) (a22 : Nat → Int32) (f16_6 : Int32) (f16_7 : Int32) (f16_8 : Int32) (f47_1 : Int32) (f47_2 : Int32) (f47_3 : Int32) (f47_4 : Int32) : Option T_od_readLine :=
  zg (g_tx_sign (f47_2) (f47_4) (f47_1) a1) (
  zl (w_tx_sign (f47_2) (f47_4) (f47_1) a1) (fun v1 =>
  zg (g_tx_isDigit (f47_2) (f47_4) (f47_1) a1) (
  zl (w_tx_isDigit (f47_2) (f47_4) (f47_1) a1) (fun v2 =>
  bif !decide (v2 = 0) then
   bif decide (y < 16) then
    bif !decide (v1 = 42) then
     bif !decide (v1 = 126) then
      bif !decide (v1 = 33) then
       zbd (q_od_readThing a1 a20 a21 a22 (f16_6) (f16_7) (f47_1) (f47_2) (f47_3) (f47_4)) (fun v3 =>
       some (a17, a18, a19, ((v3.1)), ((v3.2.1)), ((v3.2.2.1)), (v3.2.2.2.1), (v3.2.2.2.2.1), f16_8, (v3.2.2.2.2.2.1), (v3.2.2.2.2.2.2.1), (v3.2.2.2.2.2.2.2)))
      else
       zbd (q_od_readWind a1 (f16_8) (f47_1) (f47_2) (f47_3) (f47_4)) (fun v4 =>
       some (a17, a18, a19, a20, a21, a22, f16_6, f16_7, (v4.1), (v4.2.1), (v4.2.2.1), (v4.2.2.2)))
     else
      zbd (q_od_readWatering a1 a17 a18 a19 (f47_1) (f47_2) (f47_3) (f47_4)) (fun v5 =>
      some (((v5.1)), ((v5.2.1)), ((v5.2.2.1)), a20, a21, a22, f16_6, f16_7, f16_8, (v5.2.2.2.1), (v5.2.2.2.2.1), (v5.2.2.2.2.2)))
    else
     zbd (q_od_readLighting a1 a17 a18 a19 (f47_1) (f47_2) (f47_3) (f47_4)) (fun v6 =>
     some (a17, ((v6.1)), ((v6.2.1)), a20, a21, a22, f16_6, f16_7, f16_8, (v6.2.2.1), (v6.2.2.2.1), (v6.2.2.2.2)))
   else
    zl (f0_tx_fail 4 (f47_4) (f47_2) (f47_3)) (fun v7 =>
    zl (f1_tx_fail 4 (f47_4) (f47_2) (f47_3)) (fun v8 =>
    some (a17, a18, a19, a20, a21, a22, f16_6, f16_7, f16_8, v7, v8, f47_4)))
  else
   bif decide (v1 = 42) then
    bif decide (y < 16) then
     bif !decide (v1 = 42) then
      bif !decide (v1 = 126) then
       bif !decide (v1 = 33) then
        zbd (q_od_readThing a1 a20 a21 a22 (f16_6) (f16_7) (f47_1) (f47_2) (f47_3) (f47_4)) (fun v9 =>
        some (a17, a18, a19, ((v9.1)), ((v9.2.1)), ((v9.2.2.1)), (v9.2.2.2.1), (v9.2.2.2.2.1), f16_8, (v9.2.2.2.2.2.1), (v9.2.2.2.2.2.2.1), (v9.2.2.2.2.2.2.2)))
       else
        zbd (q_od_readWind a1 (f16_8) (f47_1) (f47_2) (f47_3) (f47_4)) (fun v10 =>
        some (a17, a18, a19, a20, a21, a22, f16_6, f16_7, (v10.1), (v10.2.1), (v10.2.2.1), (v10.2.2.2)))
      else
       zbd (q_od_readWatering a1 a17 a18 a19 (f47_1) (f47_2) (f47_3) (f47_4)) (fun v11 =>
       some (((v11.1)), ((v11.2.1)), ((v11.2.2.1)), a20, a21, a22, f16_6, f16_7, f16_8, (v11.2.2.2.1), (v11.2.2.2.2.1), (v11.2.2.2.2.2)))
     else
      zbd (q_od_readLighting a1 a17 a18 a19 (f47_1) (f47_2) (f47_3) (f47_4)) (fun v12 =>
      some (a17, ((v12.1)), ((v12.2.1)), a20, a21, a22, f16_6, f16_7, f16_8, (v12.2.2.1), (v12.2.2.2.1), (v12.2.2.2.2)))
    else
     zl (f0_tx_fail 4 (f47_4) (f47_2) (f47_3)) (fun v13 =>
     zl (f1_tx_fail 4 (f47_4) (f47_2) (f47_3)) (fun v14 =>
     some (a17, a18, a19, a20, a21, a22, f16_6, f16_7, f16_8, v13, v14, f47_4)))
   else
    bif decide (v1 = 126) then
     bif decide (y < 16) then
      bif !decide (v1 = 42) then
       bif !decide (v1 = 126) then
        bif !decide (v1 = 33) then
         zbd (q_od_readThing a1 a20 a21 a22 (f16_6) (f16_7) (f47_1) (f47_2) (f47_3) (f47_4)) (fun v15 =>
         some (a17, a18, a19, ((v15.1)), ((v15.2.1)), ((v15.2.2.1)), (v15.2.2.2.1), (v15.2.2.2.2.1), f16_8, (v15.2.2.2.2.2.1), (v15.2.2.2.2.2.2.1), (v15.2.2.2.2.2.2.2)))
        else
         zbd (q_od_readWind a1 (f16_8) (f47_1) (f47_2) (f47_3) (f47_4)) (fun v16 =>
         some (a17, a18, a19, a20, a21, a22, f16_6, f16_7, (v16.1), (v16.2.1), (v16.2.2.1), (v16.2.2.2)))
       else
        zbd (q_od_readWatering a1 a17 a18 a19 (f47_1) (f47_2) (f47_3) (f47_4)) (fun v17 =>
        some (((v17.1)), ((v17.2.1)), ((v17.2.2.1)), a20, a21, a22, f16_6, f16_7, f16_8, (v17.2.2.2.1), (v17.2.2.2.2.1), (v17.2.2.2.2.2)))
      else
       zbd (q_od_readLighting a1 a17 a18 a19 (f47_1) (f47_2) (f47_3) (f47_4)) (fun v18 =>
       some (a17, ((v18.1)), ((v18.2.1)), a20, a21, a22, f16_6, f16_7, f16_8, (v18.2.2.1), (v18.2.2.2.1), (v18.2.2.2.2)))
     else
      zl (f0_tx_fail 4 (f47_4) (f47_2) (f47_3)) (fun v19 =>
      zl (f1_tx_fail 4 (f47_4) (f47_2) (f47_3)) (fun v20 =>
      some (a17, a18, a19, a20, a21, a22, f16_6, f16_7, f16_8, v19, v20, f47_4)))
    else
     bif !decide (v1 = 33) then
      zl (f0_tx_fail 1 (f47_4) (f47_2) (f47_3)) (fun v21 =>
      zl (f1_tx_fail 1 (f47_4) (f47_2) (f47_3)) (fun v22 =>
      some (a17, a18, a19, a20, a21, a22, f16_6, f16_7, f16_8, v21, v22, f47_4)))
     else
      bif decide (y < 16) then
       bif !decide (v1 = 42) then
        bif !decide (v1 = 126) then
         bif !decide (v1 = 33) then
          zbd (q_od_readThing a1 a20 a21 a22 (f16_6) (f16_7) (f47_1) (f47_2) (f47_3) (f47_4)) (fun v23 =>
          some (a17, a18, a19, ((v23.1)), ((v23.2.1)), ((v23.2.2.1)), (v23.2.2.2.1), (v23.2.2.2.2.1), f16_8, (v23.2.2.2.2.2.1), (v23.2.2.2.2.2.2.1), (v23.2.2.2.2.2.2.2)))
         else
          zbd (q_od_readWind a1 (f16_8) (f47_1) (f47_2) (f47_3) (f47_4)) (fun v24 =>
          some (a17, a18, a19, a20, a21, a22, f16_6, f16_7, (v24.1), (v24.2.1), (v24.2.2.1), (v24.2.2.2)))
        else
         zbd (q_od_readWatering a1 a17 a18 a19 (f47_1) (f47_2) (f47_3) (f47_4)) (fun v25 =>
         some (((v25.1)), ((v25.2.1)), ((v25.2.2.1)), a20, a21, a22, f16_6, f16_7, f16_8, (v25.2.2.2.1), (v25.2.2.2.2.1), (v25.2.2.2.2.2)))
       else
        zbd (q_od_readLighting a1 a17 a18 a19 (f47_1) (f47_2) (f47_3) (f47_4)) (fun v26 =>
        some (a17, ((v26.1)), ((v26.2.1)), a20, a21, a22, f16_6, f16_7, f16_8, (v26.2.2.1), (v26.2.2.2.1), (v26.2.2.2.2)))
      else
       zl (f0_tx_fail 4 (f47_4) (f47_2) (f47_3)) (fun v27 =>
       zl (f1_tx_fail 4 (f47_4) (f47_2) (f47_3)) (fun v28 =>
       some (a17, a18, a19, a20, a21, a22, f16_6, f16_7, f16_8, v27, v28, f47_4)))))))
def P_od_readLine (Q : Int32 → (Nat → Int32) → (Nat → Int32) → (Nat → Int32) → (Nat → Int32) → (Nat → Int32) → (Nat → Int32) → (Nat → Int32) → Int32 → Int32 → Int32 → Int32 → Int32 → Int32 → Int32 → Option ((Nat → Int32) × (Nat → Int32) × (Nat → Int32) × (Nat → Int32) × (Nat → Int32) × (Nat → Int32) × Int32 × Int32 × Int32 × Int32 × Int32 × Int32)) : zSp := fun as g => match as with
  | [.ref a, .ref b, .int y] => bif Nat.beq a 46 && Nat.beq b 16 && Nat.beq g.2.2.2.2.2.2 1 then zpe (Q y (g.1 1) (g.1 17) (g.1 18) (g.1 19) (g.1 20) (g.1 21) (g.1 22) (g.2.1 16 6) (g.2.1 16 7) (g.2.1 16 8) (g.2.1 47 1) (g.2.1 47 2) (g.2.1 47 3) (g.2.1 47 4)) (fun t => (none, ((zua (zua (zua (zua (zua (zua g.1 17 t.1) 18 t.2.1) 19 t.2.2.1) 20 t.2.2.2.1) 21 t.2.2.2.2.1) 22 t.2.2.2.2.2.1), (zuf (zuf (zuf (zuf (zuf (zuf g.2.1 16 6 t.2.2.2.2.2.2.1) 16 7 t.2.2.2.2.2.2.2.1) 16 8 t.2.2.2.2.2.2.2.2.1) 47 2 t.2.2.2.2.2.2.2.2.2.1) 47 3 t.2.2.2.2.2.2.2.2.2.2.1) 47 4 t.2.2.2.2.2.2.2.2.2.2.2), g.2.2))) else none
  | _ => none
noncomputable abbrev S_od_readLine : zSp := P_od_readLine q_od_readLine
def O_od_readLine (ar fi : Nat → Nat → Int32) (m1 : Nat) (m2 : Nat) (m3 : Nat) (m4 : Nat) (t : T_od_readLine) : zO2 := (none, ((zua (zua (zua (zua (zua (zua ar 17 t.1) 18 t.2.1) 19 t.2.2.1) 20 t.2.2.2.1) 21 t.2.2.2.2.1) 22 t.2.2.2.2.2.1), (zuf (zuf (zuf (zuf (zuf (zuf fi 16 6 t.2.2.2.2.2.2.1) 16 7 t.2.2.2.2.2.2.2.1) 16 8 t.2.2.2.2.2.2.2.2.1) 47 2 t.2.2.2.2.2.2.2.2.2.1) 47 3 t.2.2.2.2.2.2.2.2.2.2.1) 47 4 t.2.2.2.2.2.2.2.2.2.2.2), (m1, m2, m3, m4, 1)))
set_option maxRecDepth 20000 in
theorem t_od_readLine {X : Nat × (Nat → Int32)} {ar fi : Nat → Nat → Int32} {m1 m2 m3 m4 : Nat} {y : Int32} {G_tx_sign : Int32 → Int32 → Int32 → (Nat → Int32) → Bool} {W_tx_sign : Int32 → Int32 → Int32 → (Nat → Int32) → Int32} {G_tx_isDigit : Int32 → Int32 → Int32 → (Nat → Int32) → Bool} {W_tx_isDigit : Int32 → Int32 → Int32 → (Nat → Int32) → Int32} {F0_tx_fail : Int32 → Int32 → Int32 → Int32 → Int32} {F1_tx_fail : Int32 → Int32 → Int32 → Int32 → Int32} {Q_od_readLighting : (Nat → Int32) → (Nat → Int32) → (Nat → Int32) → (Nat → Int32) → Int32 → Int32 → Int32 → Int32 → Option ((Nat → Int32) × (Nat → Int32) × Int32 × Int32 × Int32)} {Q_od_readWatering : (Nat → Int32) → (Nat → Int32) → (Nat → Int32) → (Nat → Int32) → Int32 → Int32 → Int32 → Int32 → Option ((Nat → Int32) × (Nat → Int32) × (Nat → Int32) × Int32 × Int32 × Int32)} {Q_od_readWind : (Nat → Int32) → Int32 → Int32 → Int32 → Int32 → Int32 → Option (Int32 × Int32 × Int32 × Int32)} {Q_od_readThing : (Nat → Int32) → (Nat → Int32) → (Nat → Int32) → (Nat → Int32) → Int32 → Int32 → Int32 → Int32 → Int32 → Int32 → Option ((Nat → Int32) × (Nat → Int32) × (Nat → Int32) × Int32 × Int32 × Int32 × Int32 × Int32)} : zseg X zFT (zEx 93 (P_tx_sign G_tx_sign W_tx_sign) (zEx 94 (P_tx_isDigit G_tx_isDigit W_tx_isDigit) (zEx 97 (P_tx_fail F0_tx_fail F1_tx_fail) (zEx 58 (P_od_readLighting Q_od_readLighting) (zEx 59 (P_od_readWatering Q_od_readWatering) (zEx 60 (P_od_readWind Q_od_readWind) (zEx 61 (P_od_readThing Q_od_readThing) zE0))))))) zc_57 (fun p => false) 400 0 [.ref 46, .ref 16, .int y] [] (ar, fi, (m1, m2, m3, m4, 1)) = (
  zg (G_tx_sign (fi 47 2) (fi 47 4) (fi 47 1) (ar 1)) (
  zl (W_tx_sign (fi 47 2) (fi 47 4) (fi 47 1) (ar 1)) (fun v1 =>
  zg (G_tx_isDigit (fi 47 2) (fi 47 4) (fi 47 1) (ar 1)) (
  zl (W_tx_isDigit (fi 47 2) (fi 47 4) (fi 47 1) (ar 1)) (fun v2 =>
  bif !decide (v2 = 0) then
   bif decide (y < 16) then
    bif !decide (v1 = 42) then
     bif !decide (v1 = 126) then
      bif !decide (v1 = 33) then
       zl (Q_od_readThing (ar 1) (ar 20) (ar 21) (ar 22) (fi 16 6) (fi 16 7) (fi 47 1) (fi 47 2) (fi 47 3) (fi 47 4)) (fun v3 => zg v3.isSome (
       some (.inr (none, ((zua (zua (zua ar 20 (((zgt v3).1))) 21 (((zgt v3).2.1))) 22 (((zgt v3).2.2.1))), (zuf (zuf (zuf (zuf (zuf fi 16 6 (((zgt v3).2.2.2.1))) 16 7 (((zgt v3).2.2.2.2.1))) 47 2 (((zgt v3).2.2.2.2.2.1))) 47 3 (((zgt v3).2.2.2.2.2.2.1))) 47 4 (((zgt v3).2.2.2.2.2.2.2))), (m1, m2, m3, m4, 1))))))
      else
       zl (Q_od_readWind (ar 1) (fi 16 8) (fi 47 1) (fi 47 2) (fi 47 3) (fi 47 4)) (fun v4 => zg v4.isSome (
       some (.inr (none, (ar, (zuf (zuf (zuf (zuf fi 16 8 (((zgt v4).1))) 47 2 (((zgt v4).2.1))) 47 3 (((zgt v4).2.2.1))) 47 4 (((zgt v4).2.2.2))), (m1, m2, m3, m4, 1))))))
     else
      zl (Q_od_readWatering (ar 1) (ar 17) (ar 18) (ar 19) (fi 47 1) (fi 47 2) (fi 47 3) (fi 47 4)) (fun v5 => zg v5.isSome (
      some (.inr (none, ((zua (zua (zua ar 17 (((zgt v5).1))) 18 (((zgt v5).2.1))) 19 (((zgt v5).2.2.1))), (zuf (zuf (zuf fi 47 2 (((zgt v5).2.2.2.1))) 47 3 (((zgt v5).2.2.2.2.1))) 47 4 (((zgt v5).2.2.2.2.2))), (m1, m2, m3, m4, 1))))))
    else
     zl (Q_od_readLighting (ar 1) (ar 17) (ar 18) (ar 19) (fi 47 1) (fi 47 2) (fi 47 3) (fi 47 4)) (fun v6 => zg v6.isSome (
     some (.inr (none, ((zua (zua ar 18 (((zgt v6).1))) 19 (((zgt v6).2.1))), (zuf (zuf (zuf fi 47 2 (((zgt v6).2.2.1))) 47 3 (((zgt v6).2.2.2.1))) 47 4 (((zgt v6).2.2.2.2))), (m1, m2, m3, m4, 1))))))
   else
    zl (F0_tx_fail 4 (fi 47 4) (fi 47 2) (fi 47 3)) (fun v7 =>
    zl (F1_tx_fail 4 (fi 47 4) (fi 47 2) (fi 47 3)) (fun v8 =>
    some (.inr (none, (ar, (zuf (zuf fi 47 2 v7) 47 3 v8), (m1, m2, m3, m4, 1))))))
  else
   bif decide (v1 = 42) then
    bif decide (y < 16) then
     bif !decide (v1 = 42) then
      bif !decide (v1 = 126) then
       bif !decide (v1 = 33) then
        zl (Q_od_readThing (ar 1) (ar 20) (ar 21) (ar 22) (fi 16 6) (fi 16 7) (fi 47 1) (fi 47 2) (fi 47 3) (fi 47 4)) (fun v9 => zg v9.isSome (
        some (.inr (none, ((zua (zua (zua ar 20 (((zgt v9).1))) 21 (((zgt v9).2.1))) 22 (((zgt v9).2.2.1))), (zuf (zuf (zuf (zuf (zuf fi 16 6 (((zgt v9).2.2.2.1))) 16 7 (((zgt v9).2.2.2.2.1))) 47 2 (((zgt v9).2.2.2.2.2.1))) 47 3 (((zgt v9).2.2.2.2.2.2.1))) 47 4 (((zgt v9).2.2.2.2.2.2.2))), (m1, m2, m3, m4, 1))))))
       else
        zl (Q_od_readWind (ar 1) (fi 16 8) (fi 47 1) (fi 47 2) (fi 47 3) (fi 47 4)) (fun v10 => zg v10.isSome (
        some (.inr (none, (ar, (zuf (zuf (zuf (zuf fi 16 8 (((zgt v10).1))) 47 2 (((zgt v10).2.1))) 47 3 (((zgt v10).2.2.1))) 47 4 (((zgt v10).2.2.2))), (m1, m2, m3, m4, 1))))))
      else
       zl (Q_od_readWatering (ar 1) (ar 17) (ar 18) (ar 19) (fi 47 1) (fi 47 2) (fi 47 3) (fi 47 4)) (fun v11 => zg v11.isSome (
       some (.inr (none, ((zua (zua (zua ar 17 (((zgt v11).1))) 18 (((zgt v11).2.1))) 19 (((zgt v11).2.2.1))), (zuf (zuf (zuf fi 47 2 (((zgt v11).2.2.2.1))) 47 3 (((zgt v11).2.2.2.2.1))) 47 4 (((zgt v11).2.2.2.2.2))), (m1, m2, m3, m4, 1))))))
     else
      zl (Q_od_readLighting (ar 1) (ar 17) (ar 18) (ar 19) (fi 47 1) (fi 47 2) (fi 47 3) (fi 47 4)) (fun v12 => zg v12.isSome (
      some (.inr (none, ((zua (zua ar 18 (((zgt v12).1))) 19 (((zgt v12).2.1))), (zuf (zuf (zuf fi 47 2 (((zgt v12).2.2.1))) 47 3 (((zgt v12).2.2.2.1))) 47 4 (((zgt v12).2.2.2.2))), (m1, m2, m3, m4, 1))))))
    else
     zl (F0_tx_fail 4 (fi 47 4) (fi 47 2) (fi 47 3)) (fun v13 =>
     zl (F1_tx_fail 4 (fi 47 4) (fi 47 2) (fi 47 3)) (fun v14 =>
     some (.inr (none, (ar, (zuf (zuf fi 47 2 v13) 47 3 v14), (m1, m2, m3, m4, 1))))))
   else
    bif decide (v1 = 126) then
     bif decide (y < 16) then
      bif !decide (v1 = 42) then
       bif !decide (v1 = 126) then
        bif !decide (v1 = 33) then
         zl (Q_od_readThing (ar 1) (ar 20) (ar 21) (ar 22) (fi 16 6) (fi 16 7) (fi 47 1) (fi 47 2) (fi 47 3) (fi 47 4)) (fun v15 => zg v15.isSome (
         some (.inr (none, ((zua (zua (zua ar 20 (((zgt v15).1))) 21 (((zgt v15).2.1))) 22 (((zgt v15).2.2.1))), (zuf (zuf (zuf (zuf (zuf fi 16 6 (((zgt v15).2.2.2.1))) 16 7 (((zgt v15).2.2.2.2.1))) 47 2 (((zgt v15).2.2.2.2.2.1))) 47 3 (((zgt v15).2.2.2.2.2.2.1))) 47 4 (((zgt v15).2.2.2.2.2.2.2))), (m1, m2, m3, m4, 1))))))
        else
         zl (Q_od_readWind (ar 1) (fi 16 8) (fi 47 1) (fi 47 2) (fi 47 3) (fi 47 4)) (fun v16 => zg v16.isSome (
         some (.inr (none, (ar, (zuf (zuf (zuf (zuf fi 16 8 (((zgt v16).1))) 47 2 (((zgt v16).2.1))) 47 3 (((zgt v16).2.2.1))) 47 4 (((zgt v16).2.2.2))), (m1, m2, m3, m4, 1))))))
       else
        zl (Q_od_readWatering (ar 1) (ar 17) (ar 18) (ar 19) (fi 47 1) (fi 47 2) (fi 47 3) (fi 47 4)) (fun v17 => zg v17.isSome (
        some (.inr (none, ((zua (zua (zua ar 17 (((zgt v17).1))) 18 (((zgt v17).2.1))) 19 (((zgt v17).2.2.1))), (zuf (zuf (zuf fi 47 2 (((zgt v17).2.2.2.1))) 47 3 (((zgt v17).2.2.2.2.1))) 47 4 (((zgt v17).2.2.2.2.2))), (m1, m2, m3, m4, 1))))))
      else
       zl (Q_od_readLighting (ar 1) (ar 17) (ar 18) (ar 19) (fi 47 1) (fi 47 2) (fi 47 3) (fi 47 4)) (fun v18 => zg v18.isSome (
       some (.inr (none, ((zua (zua ar 18 (((zgt v18).1))) 19 (((zgt v18).2.1))), (zuf (zuf (zuf fi 47 2 (((zgt v18).2.2.1))) 47 3 (((zgt v18).2.2.2.1))) 47 4 (((zgt v18).2.2.2.2))), (m1, m2, m3, m4, 1))))))
     else
      zl (F0_tx_fail 4 (fi 47 4) (fi 47 2) (fi 47 3)) (fun v19 =>
      zl (F1_tx_fail 4 (fi 47 4) (fi 47 2) (fi 47 3)) (fun v20 =>
      some (.inr (none, (ar, (zuf (zuf fi 47 2 v19) 47 3 v20), (m1, m2, m3, m4, 1))))))
    else
     bif !decide (v1 = 33) then
      zl (F0_tx_fail 1 (fi 47 4) (fi 47 2) (fi 47 3)) (fun v21 =>
      zl (F1_tx_fail 1 (fi 47 4) (fi 47 2) (fi 47 3)) (fun v22 =>
      some (.inr (none, (ar, (zuf (zuf fi 47 2 v21) 47 3 v22), (m1, m2, m3, m4, 1))))))
     else
      bif decide (y < 16) then
       bif !decide (v1 = 42) then
        bif !decide (v1 = 126) then
         bif !decide (v1 = 33) then
          zl (Q_od_readThing (ar 1) (ar 20) (ar 21) (ar 22) (fi 16 6) (fi 16 7) (fi 47 1) (fi 47 2) (fi 47 3) (fi 47 4)) (fun v23 => zg v23.isSome (
          some (.inr (none, ((zua (zua (zua ar 20 (((zgt v23).1))) 21 (((zgt v23).2.1))) 22 (((zgt v23).2.2.1))), (zuf (zuf (zuf (zuf (zuf fi 16 6 (((zgt v23).2.2.2.1))) 16 7 (((zgt v23).2.2.2.2.1))) 47 2 (((zgt v23).2.2.2.2.2.1))) 47 3 (((zgt v23).2.2.2.2.2.2.1))) 47 4 (((zgt v23).2.2.2.2.2.2.2))), (m1, m2, m3, m4, 1))))))
         else
          zl (Q_od_readWind (ar 1) (fi 16 8) (fi 47 1) (fi 47 2) (fi 47 3) (fi 47 4)) (fun v24 => zg v24.isSome (
          some (.inr (none, (ar, (zuf (zuf (zuf (zuf fi 16 8 (((zgt v24).1))) 47 2 (((zgt v24).2.1))) 47 3 (((zgt v24).2.2.1))) 47 4 (((zgt v24).2.2.2))), (m1, m2, m3, m4, 1))))))
        else
         zl (Q_od_readWatering (ar 1) (ar 17) (ar 18) (ar 19) (fi 47 1) (fi 47 2) (fi 47 3) (fi 47 4)) (fun v25 => zg v25.isSome (
         some (.inr (none, ((zua (zua (zua ar 17 (((zgt v25).1))) 18 (((zgt v25).2.1))) 19 (((zgt v25).2.2.1))), (zuf (zuf (zuf fi 47 2 (((zgt v25).2.2.2.1))) 47 3 (((zgt v25).2.2.2.2.1))) 47 4 (((zgt v25).2.2.2.2.2))), (m1, m2, m3, m4, 1))))))
       else
        zl (Q_od_readLighting (ar 1) (ar 17) (ar 18) (ar 19) (fi 47 1) (fi 47 2) (fi 47 3) (fi 47 4)) (fun v26 => zg v26.isSome (
        some (.inr (none, ((zua (zua ar 18 (((zgt v26).1))) 19 (((zgt v26).2.1))), (zuf (zuf (zuf fi 47 2 (((zgt v26).2.2.1))) 47 3 (((zgt v26).2.2.2.1))) 47 4 (((zgt v26).2.2.2.2))), (m1, m2, m3, m4, 1))))))
      else
       zl (F0_tx_fail 4 (fi 47 4) (fi 47 2) (fi 47 3)) (fun v27 =>
       zl (F1_tx_fail 4 (fi 47 4) (fi 47 2) (fi 47 3)) (fun v28 =>
       some (.inr (none, (ar, (zuf (zuf fi 47 2 v27) 47 3 v28), (m1, m2, m3, m4, 1)))))))))) : Option ((Nat × List Value × List Value × zH2) ⊕ zO2)) := rfl
theorem e_od_readLine {X : Nat × (Nat → Int32)} {ar fi : Nat → Nat → Int32} {m1 m2 m3 m4 : Nat} {y : Int32} {o : zO2} : ∀ (q : T_od_readLine), q_od_readLine y (ar 1) (ar 17) (ar 18) (ar 19) (ar 20) (ar 21) (ar 22) (fi 16 6) (fi 16 7) (fi 16 8) (fi 47 1) (fi 47 2) (fi 47 3) (fi 47 4) = some q → (fun t => O_od_readLine ar fi m1 m2 m3 m4 t = o) q → zR2 X zFT (zEx 93 S_tx_sign (zEx 94 S_tx_isDigit (zEx 97 S_tx_fail (zEx 58 S_od_readLighting (zEx 59 S_od_readWatering (zEx 60 S_od_readWind (zEx 61 S_od_readThing zE0))))))) zc_57 0 [.ref 46, .ref 16, .int y] [] (ar, fi, (m1, m2, m3, m4, 1)) o := by
  intro q h hq
  unfold q_od_readLine at h
  refine zT_seg t_od_readLine ?_
  refine zg_el h (fun hg h => zT_g hg ?_)
  refine zl_el h (fun h => zT_l ?_)
  refine zg_el h (fun hg h => zT_g hg ?_)
  refine zl_el h (fun h => zT_l ?_)
  refine zb_el h (fun hb h => zT_t hb ?_) (fun hb h => zT_f hb ?_)
  · refine zb_el h (fun hb h => zT_t hb ?_) (fun hb h => zT_f hb ?_)
    · refine zb_el h (fun hb h => zT_t hb ?_) (fun hb h => zT_f hb ?_)
      · refine zb_el h (fun hb h => zT_t hb ?_) (fun hb h => zT_f hb ?_)
        · refine zb_el h (fun hb h => zT_t hb ?_) (fun hb h => zT_f hb ?_)
          · refine zbd_el h (fun v3 hv h => zT_c hv ?_)
            have hz := zsi h hq
            refine (zO_mk ?_ ?_).trans hz
            · first | with_reducible rfl | (exact zuas_eq _ [(20, _), (21, _), (22, _)] [(17, _), (18, _), (19, _), (20, _), (21, _), (22, _)] [17, 18, 19, 20, 21, 22] rfl rfl ⟨rfl, rfl, rfl, rfl, rfl, rfl, trivial⟩)
            · first | with_reducible rfl | (exact zufs_eq _ [(16, 6, _), (16, 7, _), (47, 2, _), (47, 3, _), (47, 4, _)] [(16, 6, _), (16, 7, _), (16, 8, _), (47, 2, _), (47, 3, _), (47, 4, _)] [(16, 6), (16, 7), (16, 8), (47, 2), (47, 3), (47, 4)] rfl rfl ⟨rfl, rfl, rfl, rfl, rfl, rfl, trivial⟩)
          · refine zbd_el h (fun v4 hv h => zT_c hv ?_)
            have hz := zsi h hq
            refine (zO_mk ?_ ?_).trans hz
            · first | with_reducible rfl | (exact zuas_eq _ [] [(17, _), (18, _), (19, _), (20, _), (21, _), (22, _)] [17, 18, 19, 20, 21, 22] rfl rfl ⟨rfl, rfl, rfl, rfl, rfl, rfl, trivial⟩)
            · first | with_reducible rfl | (exact zufs_eq _ [(16, 8, _), (47, 2, _), (47, 3, _), (47, 4, _)] [(16, 6, _), (16, 7, _), (16, 8, _), (47, 2, _), (47, 3, _), (47, 4, _)] [(16, 6), (16, 7), (16, 8), (47, 2), (47, 3), (47, 4)] rfl rfl ⟨rfl, rfl, rfl, rfl, rfl, rfl, trivial⟩)
        · refine zbd_el h (fun v5 hv h => zT_c hv ?_)
          have hz := zsi h hq
          refine (zO_mk ?_ ?_).trans hz
          · first | with_reducible rfl | (exact zuas_eq _ [(17, _), (18, _), (19, _)] [(17, _), (18, _), (19, _), (20, _), (21, _), (22, _)] [17, 18, 19, 20, 21, 22] rfl rfl ⟨rfl, rfl, rfl, rfl, rfl, rfl, trivial⟩)
          · first | with_reducible rfl | (exact zufs_eq _ [(47, 2, _), (47, 3, _), (47, 4, _)] [(16, 6, _), (16, 7, _), (16, 8, _), (47, 2, _), (47, 3, _), (47, 4, _)] [(16, 6), (16, 7), (16, 8), (47, 2), (47, 3), (47, 4)] rfl rfl ⟨rfl, rfl, rfl, rfl, rfl, rfl, trivial⟩)
      · refine zbd_el h (fun v6 hv h => zT_c hv ?_)
        have hz := zsi h hq
        refine (zO_mk ?_ ?_).trans hz
        · first | with_reducible rfl | (exact zuas_eq _ [(18, _), (19, _)] [(17, _), (18, _), (19, _), (20, _), (21, _), (22, _)] [17, 18, 19, 20, 21, 22] rfl rfl ⟨rfl, rfl, rfl, rfl, rfl, rfl, trivial⟩)
        · first | with_reducible rfl | (exact zufs_eq _ [(47, 2, _), (47, 3, _), (47, 4, _)] [(16, 6, _), (16, 7, _), (16, 8, _), (47, 2, _), (47, 3, _), (47, 4, _)] [(16, 6), (16, 7), (16, 8), (47, 2), (47, 3), (47, 4)] rfl rfl ⟨rfl, rfl, rfl, rfl, rfl, rfl, trivial⟩)
    · refine zl_el h (fun h => zT_l ?_)
      refine zl_el h (fun h => zT_l ?_)
      have hz := zsi h hq
      refine (zO_mk ?_ ?_).trans hz
      · first | with_reducible rfl | (exact zuas_eq _ [] [(17, _), (18, _), (19, _), (20, _), (21, _), (22, _)] [17, 18, 19, 20, 21, 22] rfl rfl ⟨rfl, rfl, rfl, rfl, rfl, rfl, trivial⟩)
      · first | with_reducible rfl | (exact zufs_eq _ [(47, 2, _), (47, 3, _)] [(16, 6, _), (16, 7, _), (16, 8, _), (47, 2, _), (47, 3, _), (47, 4, _)] [(16, 6), (16, 7), (16, 8), (47, 2), (47, 3), (47, 4)] rfl rfl ⟨rfl, rfl, rfl, rfl, rfl, rfl, trivial⟩)
  · refine zb_el h (fun hb h => zT_t hb ?_) (fun hb h => zT_f hb ?_)
    · refine zb_el h (fun hb h => zT_t hb ?_) (fun hb h => zT_f hb ?_)
      · refine zb_el h (fun hb h => zT_t hb ?_) (fun hb h => zT_f hb ?_)
        · refine zb_el h (fun hb h => zT_t hb ?_) (fun hb h => zT_f hb ?_)
          · refine zb_el h (fun hb h => zT_t hb ?_) (fun hb h => zT_f hb ?_)
            · refine zbd_el h (fun v9 hv h => zT_c hv ?_)
              have hz := zsi h hq
              refine (zO_mk ?_ ?_).trans hz
              · first | with_reducible rfl | (exact zuas_eq _ [(20, _), (21, _), (22, _)] [(17, _), (18, _), (19, _), (20, _), (21, _), (22, _)] [17, 18, 19, 20, 21, 22] rfl rfl ⟨rfl, rfl, rfl, rfl, rfl, rfl, trivial⟩)
              · first | with_reducible rfl | (exact zufs_eq _ [(16, 6, _), (16, 7, _), (47, 2, _), (47, 3, _), (47, 4, _)] [(16, 6, _), (16, 7, _), (16, 8, _), (47, 2, _), (47, 3, _), (47, 4, _)] [(16, 6), (16, 7), (16, 8), (47, 2), (47, 3), (47, 4)] rfl rfl ⟨rfl, rfl, rfl, rfl, rfl, rfl, trivial⟩)
            · refine zbd_el h (fun v10 hv h => zT_c hv ?_)
              have hz := zsi h hq
              refine (zO_mk ?_ ?_).trans hz
              · first | with_reducible rfl | (exact zuas_eq _ [] [(17, _), (18, _), (19, _), (20, _), (21, _), (22, _)] [17, 18, 19, 20, 21, 22] rfl rfl ⟨rfl, rfl, rfl, rfl, rfl, rfl, trivial⟩)
              · first | with_reducible rfl | (exact zufs_eq _ [(16, 8, _), (47, 2, _), (47, 3, _), (47, 4, _)] [(16, 6, _), (16, 7, _), (16, 8, _), (47, 2, _), (47, 3, _), (47, 4, _)] [(16, 6), (16, 7), (16, 8), (47, 2), (47, 3), (47, 4)] rfl rfl ⟨rfl, rfl, rfl, rfl, rfl, rfl, trivial⟩)
          · refine zbd_el h (fun v11 hv h => zT_c hv ?_)
            have hz := zsi h hq
            refine (zO_mk ?_ ?_).trans hz
            · first | with_reducible rfl | (exact zuas_eq _ [(17, _), (18, _), (19, _)] [(17, _), (18, _), (19, _), (20, _), (21, _), (22, _)] [17, 18, 19, 20, 21, 22] rfl rfl ⟨rfl, rfl, rfl, rfl, rfl, rfl, trivial⟩)
            · first | with_reducible rfl | (exact zufs_eq _ [(47, 2, _), (47, 3, _), (47, 4, _)] [(16, 6, _), (16, 7, _), (16, 8, _), (47, 2, _), (47, 3, _), (47, 4, _)] [(16, 6), (16, 7), (16, 8), (47, 2), (47, 3), (47, 4)] rfl rfl ⟨rfl, rfl, rfl, rfl, rfl, rfl, trivial⟩)
        · refine zbd_el h (fun v12 hv h => zT_c hv ?_)
          have hz := zsi h hq
          refine (zO_mk ?_ ?_).trans hz
          · first | with_reducible rfl | (exact zuas_eq _ [(18, _), (19, _)] [(17, _), (18, _), (19, _), (20, _), (21, _), (22, _)] [17, 18, 19, 20, 21, 22] rfl rfl ⟨rfl, rfl, rfl, rfl, rfl, rfl, trivial⟩)
          · first | with_reducible rfl | (exact zufs_eq _ [(47, 2, _), (47, 3, _), (47, 4, _)] [(16, 6, _), (16, 7, _), (16, 8, _), (47, 2, _), (47, 3, _), (47, 4, _)] [(16, 6), (16, 7), (16, 8), (47, 2), (47, 3), (47, 4)] rfl rfl ⟨rfl, rfl, rfl, rfl, rfl, rfl, trivial⟩)
      · refine zl_el h (fun h => zT_l ?_)
        refine zl_el h (fun h => zT_l ?_)
        have hz := zsi h hq
        refine (zO_mk ?_ ?_).trans hz
        · first | with_reducible rfl | (exact zuas_eq _ [] [(17, _), (18, _), (19, _), (20, _), (21, _), (22, _)] [17, 18, 19, 20, 21, 22] rfl rfl ⟨rfl, rfl, rfl, rfl, rfl, rfl, trivial⟩)
        · first | with_reducible rfl | (exact zufs_eq _ [(47, 2, _), (47, 3, _)] [(16, 6, _), (16, 7, _), (16, 8, _), (47, 2, _), (47, 3, _), (47, 4, _)] [(16, 6), (16, 7), (16, 8), (47, 2), (47, 3), (47, 4)] rfl rfl ⟨rfl, rfl, rfl, rfl, rfl, rfl, trivial⟩)
    · refine zb_el h (fun hb h => zT_t hb ?_) (fun hb h => zT_f hb ?_)
      · refine zb_el h (fun hb h => zT_t hb ?_) (fun hb h => zT_f hb ?_)
        · refine zb_el h (fun hb h => zT_t hb ?_) (fun hb h => zT_f hb ?_)
          · refine zb_el h (fun hb h => zT_t hb ?_) (fun hb h => zT_f hb ?_)
            · refine zb_el h (fun hb h => zT_t hb ?_) (fun hb h => zT_f hb ?_)
              · refine zbd_el h (fun v15 hv h => zT_c hv ?_)
                have hz := zsi h hq
                refine (zO_mk ?_ ?_).trans hz
                · first | with_reducible rfl | (exact zuas_eq _ [(20, _), (21, _), (22, _)] [(17, _), (18, _), (19, _), (20, _), (21, _), (22, _)] [17, 18, 19, 20, 21, 22] rfl rfl ⟨rfl, rfl, rfl, rfl, rfl, rfl, trivial⟩)
                · first | with_reducible rfl | (exact zufs_eq _ [(16, 6, _), (16, 7, _), (47, 2, _), (47, 3, _), (47, 4, _)] [(16, 6, _), (16, 7, _), (16, 8, _), (47, 2, _), (47, 3, _), (47, 4, _)] [(16, 6), (16, 7), (16, 8), (47, 2), (47, 3), (47, 4)] rfl rfl ⟨rfl, rfl, rfl, rfl, rfl, rfl, trivial⟩)
              · refine zbd_el h (fun v16 hv h => zT_c hv ?_)
                have hz := zsi h hq
                refine (zO_mk ?_ ?_).trans hz
                · first | with_reducible rfl | (exact zuas_eq _ [] [(17, _), (18, _), (19, _), (20, _), (21, _), (22, _)] [17, 18, 19, 20, 21, 22] rfl rfl ⟨rfl, rfl, rfl, rfl, rfl, rfl, trivial⟩)
                · first | with_reducible rfl | (exact zufs_eq _ [(16, 8, _), (47, 2, _), (47, 3, _), (47, 4, _)] [(16, 6, _), (16, 7, _), (16, 8, _), (47, 2, _), (47, 3, _), (47, 4, _)] [(16, 6), (16, 7), (16, 8), (47, 2), (47, 3), (47, 4)] rfl rfl ⟨rfl, rfl, rfl, rfl, rfl, rfl, trivial⟩)
            · refine zbd_el h (fun v17 hv h => zT_c hv ?_)
              have hz := zsi h hq
              refine (zO_mk ?_ ?_).trans hz
              · first | with_reducible rfl | (exact zuas_eq _ [(17, _), (18, _), (19, _)] [(17, _), (18, _), (19, _), (20, _), (21, _), (22, _)] [17, 18, 19, 20, 21, 22] rfl rfl ⟨rfl, rfl, rfl, rfl, rfl, rfl, trivial⟩)
              · first | with_reducible rfl | (exact zufs_eq _ [(47, 2, _), (47, 3, _), (47, 4, _)] [(16, 6, _), (16, 7, _), (16, 8, _), (47, 2, _), (47, 3, _), (47, 4, _)] [(16, 6), (16, 7), (16, 8), (47, 2), (47, 3), (47, 4)] rfl rfl ⟨rfl, rfl, rfl, rfl, rfl, rfl, trivial⟩)
          · refine zbd_el h (fun v18 hv h => zT_c hv ?_)
            have hz := zsi h hq
            refine (zO_mk ?_ ?_).trans hz
            · first | with_reducible rfl | (exact zuas_eq _ [(18, _), (19, _)] [(17, _), (18, _), (19, _), (20, _), (21, _), (22, _)] [17, 18, 19, 20, 21, 22] rfl rfl ⟨rfl, rfl, rfl, rfl, rfl, rfl, trivial⟩)
            · first | with_reducible rfl | (exact zufs_eq _ [(47, 2, _), (47, 3, _), (47, 4, _)] [(16, 6, _), (16, 7, _), (16, 8, _), (47, 2, _), (47, 3, _), (47, 4, _)] [(16, 6), (16, 7), (16, 8), (47, 2), (47, 3), (47, 4)] rfl rfl ⟨rfl, rfl, rfl, rfl, rfl, rfl, trivial⟩)
        · refine zl_el h (fun h => zT_l ?_)
          refine zl_el h (fun h => zT_l ?_)
          have hz := zsi h hq
          refine (zO_mk ?_ ?_).trans hz
          · first | with_reducible rfl | (exact zuas_eq _ [] [(17, _), (18, _), (19, _), (20, _), (21, _), (22, _)] [17, 18, 19, 20, 21, 22] rfl rfl ⟨rfl, rfl, rfl, rfl, rfl, rfl, trivial⟩)
          · first | with_reducible rfl | (exact zufs_eq _ [(47, 2, _), (47, 3, _)] [(16, 6, _), (16, 7, _), (16, 8, _), (47, 2, _), (47, 3, _), (47, 4, _)] [(16, 6), (16, 7), (16, 8), (47, 2), (47, 3), (47, 4)] rfl rfl ⟨rfl, rfl, rfl, rfl, rfl, rfl, trivial⟩)
      · refine zb_el h (fun hb h => zT_t hb ?_) (fun hb h => zT_f hb ?_)
        · refine zl_el h (fun h => zT_l ?_)
          refine zl_el h (fun h => zT_l ?_)
          have hz := zsi h hq
          refine (zO_mk ?_ ?_).trans hz
          · first | with_reducible rfl | (exact zuas_eq _ [] [(17, _), (18, _), (19, _), (20, _), (21, _), (22, _)] [17, 18, 19, 20, 21, 22] rfl rfl ⟨rfl, rfl, rfl, rfl, rfl, rfl, trivial⟩)
          · first | with_reducible rfl | (exact zufs_eq _ [(47, 2, _), (47, 3, _)] [(16, 6, _), (16, 7, _), (16, 8, _), (47, 2, _), (47, 3, _), (47, 4, _)] [(16, 6), (16, 7), (16, 8), (47, 2), (47, 3), (47, 4)] rfl rfl ⟨rfl, rfl, rfl, rfl, rfl, rfl, trivial⟩)
        · refine zb_el h (fun hb h => zT_t hb ?_) (fun hb h => zT_f hb ?_)
          · refine zb_el h (fun hb h => zT_t hb ?_) (fun hb h => zT_f hb ?_)
            · refine zb_el h (fun hb h => zT_t hb ?_) (fun hb h => zT_f hb ?_)
              · refine zb_el h (fun hb h => zT_t hb ?_) (fun hb h => zT_f hb ?_)
                · refine zbd_el h (fun v23 hv h => zT_c hv ?_)
                  have hz := zsi h hq
                  refine (zO_mk ?_ ?_).trans hz
                  · first | with_reducible rfl | (exact zuas_eq _ [(20, _), (21, _), (22, _)] [(17, _), (18, _), (19, _), (20, _), (21, _), (22, _)] [17, 18, 19, 20, 21, 22] rfl rfl ⟨rfl, rfl, rfl, rfl, rfl, rfl, trivial⟩)
                  · first | with_reducible rfl | (exact zufs_eq _ [(16, 6, _), (16, 7, _), (47, 2, _), (47, 3, _), (47, 4, _)] [(16, 6, _), (16, 7, _), (16, 8, _), (47, 2, _), (47, 3, _), (47, 4, _)] [(16, 6), (16, 7), (16, 8), (47, 2), (47, 3), (47, 4)] rfl rfl ⟨rfl, rfl, rfl, rfl, rfl, rfl, trivial⟩)
                · refine zbd_el h (fun v24 hv h => zT_c hv ?_)
                  have hz := zsi h hq
                  refine (zO_mk ?_ ?_).trans hz
                  · first | with_reducible rfl | (exact zuas_eq _ [] [(17, _), (18, _), (19, _), (20, _), (21, _), (22, _)] [17, 18, 19, 20, 21, 22] rfl rfl ⟨rfl, rfl, rfl, rfl, rfl, rfl, trivial⟩)
                  · first | with_reducible rfl | (exact zufs_eq _ [(16, 8, _), (47, 2, _), (47, 3, _), (47, 4, _)] [(16, 6, _), (16, 7, _), (16, 8, _), (47, 2, _), (47, 3, _), (47, 4, _)] [(16, 6), (16, 7), (16, 8), (47, 2), (47, 3), (47, 4)] rfl rfl ⟨rfl, rfl, rfl, rfl, rfl, rfl, trivial⟩)
              · refine zbd_el h (fun v25 hv h => zT_c hv ?_)
                have hz := zsi h hq
                refine (zO_mk ?_ ?_).trans hz
                · first | with_reducible rfl | (exact zuas_eq _ [(17, _), (18, _), (19, _)] [(17, _), (18, _), (19, _), (20, _), (21, _), (22, _)] [17, 18, 19, 20, 21, 22] rfl rfl ⟨rfl, rfl, rfl, rfl, rfl, rfl, trivial⟩)
                · first | with_reducible rfl | (exact zufs_eq _ [(47, 2, _), (47, 3, _), (47, 4, _)] [(16, 6, _), (16, 7, _), (16, 8, _), (47, 2, _), (47, 3, _), (47, 4, _)] [(16, 6), (16, 7), (16, 8), (47, 2), (47, 3), (47, 4)] rfl rfl ⟨rfl, rfl, rfl, rfl, rfl, rfl, trivial⟩)
            · refine zbd_el h (fun v26 hv h => zT_c hv ?_)
              have hz := zsi h hq
              refine (zO_mk ?_ ?_).trans hz
              · first | with_reducible rfl | (exact zuas_eq _ [(18, _), (19, _)] [(17, _), (18, _), (19, _), (20, _), (21, _), (22, _)] [17, 18, 19, 20, 21, 22] rfl rfl ⟨rfl, rfl, rfl, rfl, rfl, rfl, trivial⟩)
              · first | with_reducible rfl | (exact zufs_eq _ [(47, 2, _), (47, 3, _), (47, 4, _)] [(16, 6, _), (16, 7, _), (16, 8, _), (47, 2, _), (47, 3, _), (47, 4, _)] [(16, 6), (16, 7), (16, 8), (47, 2), (47, 3), (47, 4)] rfl rfl ⟨rfl, rfl, rfl, rfl, rfl, rfl, trivial⟩)
          · refine zl_el h (fun h => zT_l ?_)
            refine zl_el h (fun h => zT_l ?_)
            have hz := zsi h hq
            refine (zO_mk ?_ ?_).trans hz
            · first | with_reducible rfl | (exact zuas_eq _ [] [(17, _), (18, _), (19, _), (20, _), (21, _), (22, _)] [17, 18, 19, 20, 21, 22] rfl rfl ⟨rfl, rfl, rfl, rfl, rfl, rfl, trivial⟩)
            · first | with_reducible rfl | (exact zufs_eq _ [(47, 2, _), (47, 3, _)] [(16, 6, _), (16, 7, _), (16, 8, _), (47, 2, _), (47, 3, _), (47, 4, _)] [(16, 6), (16, 7), (16, 8), (47, 2), (47, 3), (47, 4)] rfl rfl ⟨rfl, rfl, rfl, rfl, rfl, rfl, trivial⟩)
theorem ok_od_readLine (X : Nat × (Nat → Int32)) : zOkS X 57 S_od_readLine 6 := zOkS_new (zOkE_cons (ok_tx_sign X) (by decide) (zOkE_cons (ok_tx_isDigit X) (by decide) (zOkE_cons (ok_tx_fail X) (by decide) (zOkE_cons (ok_od_readLighting X) (by decide) (zOkE_cons (ok_od_readWatering X) (by decide) (zOkE_cons (ok_od_readWind X) (by decide) (zOkE_cons (ok_od_readThing X) (by decide) (zOkE_nil X 5)))))))) (by
  intro args g o h
  obtain ⟨ar, fi, m1, m2, m3, m4, m5⟩ := g
  unfold S_od_readLine P_od_readLine at h
  split at h
  · refine zb_el h (fun hI0 k0 => ?_) (fun _ h10 => ?_)
    · try simp only [Bool.and_eq_true] at hI0
      obtain ⟨⟨j0, j1⟩, j2⟩ := hI0
      have e0 := Nat.eq_of_beq_eq_true j0
      subst e0
      have e1 := Nat.eq_of_beq_eq_true j1
      subst e1
      have e9 : m5 = 1 := Nat.eq_of_beq_eq_true j2
      subst e9
      exact zpe_el k0 (fun t ht ho => e_od_readLine t ht ho)
    · cases h10
  · cases h)
abbrev T_fr_burnFor : Type := (Nat → Int32) × (Nat → Int32) × (Nat → Int32) × (Nat → Int32) × (Nat → Int32) × Int32 × Int32 × Int32
abbrev U_fr_burnFor_3 : Type := Int32 × (Nat → Int32) × (Nat → Int32) × (Nat → Int32) × (Nat → Int32) × (Nat → Int32) × Int32 × Int32 × Int32
noncomputable def b_fr_burnFor_3 (z : Int32) (a3 : Nat → Int32) (a6 : Nat → Int32) (a7 : Nat → Int32) (a8 : Nat → Int32) (a24 : Nat → Int32) (a25 : Nat → Int32) (a27 : Nat → Int32) (a28 : Nat → Int32) (a29 : Nat → Int32) (a30 : Nat → Int32) (f2_6 : Int32) (f2_8 : Int32) (f23_8 : Int32) (f23_9 : Int32) (l4 : Int32) (b4 : Nat → Int32) (b5 : Nat → Int32) (b26 : Nat → Int32) (b50 : Nat → Int32) (b51 : Nat → Int32) (c2_7 : Int32) (c2_9 : Int32) (c2_10 : Int32) : Option (U_fr_burnFor_3 ⊕ T_fr_burnFor) :=
  bif decide (z ≤ l4) then
   some (.inr (b4, b5, b26, b50, b51, c2_7, c2_9, c2_10))
  else
   bif decide (9999 ≤ c2_9) then
    some (.inr (b4, b5, b26, b50, b51, c2_7, c2_9, c2_10))
   else
    zbd (q_fr_passMinute a3 b4 b5 a6 a7 a8 a24 a25 b26 a27 a28 a29 a30 b50 b51 (f2_6) c2_7 (f2_8) c2_9 c2_10 (f23_8) (f23_9)) (fun v1 =>
    some (.inl (l4 + 1, ((v1.1)), ((v1.2.1)), ((v1.2.2.1)), ((v1.2.2.2.1)), ((v1.2.2.2.2.1)), (v1.2.2.2.2.2.1), (v1.2.2.2.2.2.2.1), (v1.2.2.2.2.2.2.2))))
noncomputable def f_fr_burnFor_3 (z : Int32) (a3 : Nat → Int32) (a6 : Nat → Int32) (a7 : Nat → Int32) (a8 : Nat → Int32) (a24 : Nat → Int32) (a25 : Nat → Int32) (a27 : Nat → Int32) (a28 : Nat → Int32) (a29 : Nat → Int32) (a30 : Nat → Int32) (f2_6 : Int32) (f2_8 : Int32) (f23_8 : Int32) (f23_9 : Int32) : U_fr_burnFor_3 → Option (U_fr_burnFor_3 ⊕ T_fr_burnFor) := fun s => b_fr_burnFor_3 z a3 a6 a7 a8 a24 a25 a27 a28 a29 a30 f2_6 f2_8 f23_8 f23_9 s.1 s.2.1 s.2.2.1 s.2.2.2.1 s.2.2.2.2.1 s.2.2.2.2.2.1 s.2.2.2.2.2.2.1 s.2.2.2.2.2.2.2.1 s.2.2.2.2.2.2.2.2
noncomputable def l_fr_burnFor_3 (z : Int32) (a3 : Nat → Int32) (a6 : Nat → Int32) (a7 : Nat → Int32) (a8 : Nat → Int32) (a24 : Nat → Int32) (a25 : Nat → Int32) (a27 : Nat → Int32) (a28 : Nat → Int32) (a29 : Nat → Int32) (a30 : Nat → Int32) (f2_6 : Int32) (f2_8 : Int32) (f23_8 : Int32) (f23_9 : Int32) (l4 : Int32) (b4 : Nat → Int32) (b5 : Nat → Int32) (b26 : Nat → Int32) (b50 : Nat → Int32) (b51 : Nat → Int32) (c2_7 : Int32) (c2_9 : Int32) (c2_10 : Int32) : Option T_fr_burnFor := zlp (f_fr_burnFor_3 z a3 a6 a7 a8 a24 a25 a27 a28 a29 a30 f2_6 f2_8 f23_8 f23_9) (l4, b4, b5, b26, b50, b51, c2_7, c2_9, c2_10)
noncomputable def q_fr_burnFor (z : Int32) (a3 : Nat → Int32) (a4 : Nat → Int32) (a5 : Nat → Int32) (a6 : Nat → Int32) (a7 : Nat → Int32) (a8 : Nat → Int32) (a24 : Nat → Int32) (a25 : Nat → Int32) (a26 : Nat → Int32) (a27 : Nat → Int32) (a28 : Nat → Int32) (a29 : Nat → Int32) (a30 : Nat → Int32) (a50 : Nat → Int32) (a51 : Nat → Int32) (f2_6 : Int32) (f2_7 : Int32) (f2_8 : Int32) (f2_9 : Int32) (f2_10 : Int32) (f23_8 : Int32) (f23_9 : Int32) : Option T_fr_burnFor :=
  l_fr_burnFor_3 z a3 a6 a7 a8 a24 a25 a27 a28 a29 a30 f2_6 f2_8 f23_8 f23_9 0 a4 a5 a26 a50 a51 (f2_7) (f2_9) (f2_10)
def P_fr_burnFor (Q : Int32 → (Nat → Int32) → (Nat → Int32) → (Nat → Int32) → (Nat → Int32) → (Nat → Int32) → (Nat → Int32) → (Nat → Int32) → (Nat → Int32) → (Nat → Int32) → (Nat → Int32) → (Nat → Int32) → (Nat → Int32) → (Nat → Int32) → (Nat → Int32) → (Nat → Int32) → Int32 → Int32 → Int32 → Int32 → Int32 → Int32 → Int32 → Option ((Nat → Int32) × (Nat → Int32) × (Nat → Int32) × (Nat → Int32) × (Nat → Int32) × Int32 × Int32 × Int32)) : zSp := fun as g => match as with
  | [.ref a, .ref b, .ref c, .int z] => bif Nat.beq a 49 && Nat.beq b 2 && Nat.beq c 23 then zpe (Q z (g.1 3) (g.1 4) (g.1 5) (g.1 6) (g.1 7) (g.1 8) (g.1 24) (g.1 25) (g.1 26) (g.1 27) (g.1 28) (g.1 29) (g.1 30) (g.1 50) (g.1 51) (g.2.1 2 6) (g.2.1 2 7) (g.2.1 2 8) (g.2.1 2 9) (g.2.1 2 10) (g.2.1 23 8) (g.2.1 23 9)) (fun t => (none, ((zua (zua (zua (zua (zua g.1 4 t.1) 5 t.2.1) 26 t.2.2.1) 50 t.2.2.2.1) 51 t.2.2.2.2.1), (zuf (zuf (zuf g.2.1 2 7 t.2.2.2.2.2.1) 2 9 t.2.2.2.2.2.2.1) 2 10 t.2.2.2.2.2.2.2), g.2.2))) else bif Nat.beq a 49 && Nat.beq b 2 && Nat.beq c 31 then zpe (Q z (g.1 3) (g.1 4) (g.1 5) (g.1 6) (g.1 7) (g.1 8) (g.1 32) (g.1 33) (g.1 34) (g.1 35) (g.1 36) (g.1 37) (g.1 38) (g.1 50) (g.1 51) (g.2.1 2 6) (g.2.1 2 7) (g.2.1 2 8) (g.2.1 2 9) (g.2.1 2 10) (g.2.1 31 8) (g.2.1 31 9)) (fun t => (none, ((zua (zua (zua (zua (zua g.1 4 t.1) 5 t.2.1) 34 t.2.2.1) 50 t.2.2.2.1) 51 t.2.2.2.2.1), (zuf (zuf (zuf g.2.1 2 7 t.2.2.2.2.2.1) 2 9 t.2.2.2.2.2.2.1) 2 10 t.2.2.2.2.2.2.2), g.2.2))) else bif Nat.beq a 49 && Nat.beq b 16 && Nat.beq c 23 then zpe (Q z (g.1 17) (g.1 18) (g.1 19) (g.1 20) (g.1 21) (g.1 22) (g.1 24) (g.1 25) (g.1 26) (g.1 27) (g.1 28) (g.1 29) (g.1 30) (g.1 50) (g.1 51) (g.2.1 16 6) (g.2.1 16 7) (g.2.1 16 8) (g.2.1 16 9) (g.2.1 16 10) (g.2.1 23 8) (g.2.1 23 9)) (fun t => (none, ((zua (zua (zua (zua (zua g.1 18 t.1) 19 t.2.1) 26 t.2.2.1) 50 t.2.2.2.1) 51 t.2.2.2.2.1), (zuf (zuf (zuf g.2.1 16 7 t.2.2.2.2.2.1) 16 9 t.2.2.2.2.2.2.1) 16 10 t.2.2.2.2.2.2.2), g.2.2))) else bif Nat.beq a 49 && Nat.beq b 16 && Nat.beq c 31 then zpe (Q z (g.1 17) (g.1 18) (g.1 19) (g.1 20) (g.1 21) (g.1 22) (g.1 32) (g.1 33) (g.1 34) (g.1 35) (g.1 36) (g.1 37) (g.1 38) (g.1 50) (g.1 51) (g.2.1 16 6) (g.2.1 16 7) (g.2.1 16 8) (g.2.1 16 9) (g.2.1 16 10) (g.2.1 31 8) (g.2.1 31 9)) (fun t => (none, ((zua (zua (zua (zua (zua g.1 18 t.1) 19 t.2.1) 34 t.2.2.1) 50 t.2.2.2.1) 51 t.2.2.2.2.1), (zuf (zuf (zuf g.2.1 16 7 t.2.2.2.2.2.1) 16 9 t.2.2.2.2.2.2.1) 16 10 t.2.2.2.2.2.2.2), g.2.2))) else none
  | _ => none
noncomputable abbrev S_fr_burnFor : zSp := P_fr_burnFor q_fr_burnFor
def O_fr_burnFor_49_2_23 (ar fi : Nat → Nat → Int32) (m1 : Nat) (m2 : Nat) (m3 : Nat) (m4 : Nat) (m5 : Nat) (t : T_fr_burnFor) : zO2 := (none, ((zua (zua (zua (zua (zua ar 4 t.1) 5 t.2.1) 26 t.2.2.1) 50 t.2.2.2.1) 51 t.2.2.2.2.1), (zuf (zuf (zuf fi 2 7 t.2.2.2.2.2.1) 2 9 t.2.2.2.2.2.2.1) 2 10 t.2.2.2.2.2.2.2), (m1, m2, m3, m4, m5)))
def M_fr_burnFor_3_49_2_23 (X : Nat × (Nat → Int32)) (E : zTE) (ar fi : Nat → Nat → Int32) (m1 : Nat) (m2 : Nat) (m3 : Nat) (m4 : Nat) (m5 : Nat) (z : Int32) (o : zO2) (s : U_fr_burnFor_3) : Prop := zR2 X zFT E zc_20 3 [.ref 49, .ref 2, .ref 23, .int z, .int s.1] [] ((zua (zua (zua (zua (zua ar 4 s.2.1) 5 s.2.2.1) 26 s.2.2.2.1) 50 s.2.2.2.2.1) 51 s.2.2.2.2.2.1), (zuf (zuf (zuf fi 2 7 s.2.2.2.2.2.2.1) 2 9 s.2.2.2.2.2.2.2.1) 2 10 s.2.2.2.2.2.2.2.2), (m1, m2, m3, m4, m5)) o
set_option maxRecDepth 20000 in
theorem t3_fr_burnFor_49_2_23 {X : Nat × (Nat → Int32)} {ar fi : Nat → Nat → Int32} {m1 m2 m3 m4 m5 : Nat} {z : Int32} {l4 : Int32} {b4 : Nat → Int32} {b5 : Nat → Int32} {b26 : Nat → Int32} {b50 : Nat → Int32} {b51 : Nat → Int32} {c2_7 : Int32} {c2_9 : Int32} {c2_10 : Int32} {Q_fr_passMinute : (Nat → Int32) → (Nat → Int32) → (Nat → Int32) → (Nat → Int32) → (Nat → Int32) → (Nat → Int32) → (Nat → Int32) → (Nat → Int32) → (Nat → Int32) → (Nat → Int32) → (Nat → Int32) → (Nat → Int32) → (Nat → Int32) → (Nat → Int32) → (Nat → Int32) → Int32 → Int32 → Int32 → Int32 → Int32 → Int32 → Int32 → Option ((Nat → Int32) × (Nat → Int32) × (Nat → Int32) × (Nat → Int32) × (Nat → Int32) × Int32 × Int32 × Int32)} : zseg X zFT (zEx 21 (P_fr_passMinute Q_fr_passMinute) zE0) zc_20 (fun p => Nat.beq p 3) 400 3 [.ref 49, .ref 2, .ref 23, .int z, .int l4] [] ((zua (zua (zua (zua (zua ar 4 b4) 5 b5) 26 b26) 50 b50) 51 b51), (zuf (zuf (zuf fi 2 7 c2_7) 2 9 c2_9) 2 10 c2_10), (m1, m2, m3, m4, m5)) = (
  bif decide (z ≤ l4) then
   some (.inr (none, ((zua (zua (zua (zua (zua ar 4 b4) 5 b5) 26 b26) 50 b50) 51 b51), (zuf (zuf (zuf fi 2 7 c2_7) 2 9 c2_9) 2 10 c2_10), (m1, m2, m3, m4, m5))))
  else
   bif decide (9999 ≤ c2_9) then
    some (.inr (none, ((zua (zua (zua (zua (zua ar 4 b4) 5 b5) 26 b26) 50 b50) 51 b51), (zuf (zuf (zuf fi 2 7 c2_7) 2 9 c2_9) 2 10 c2_10), (m1, m2, m3, m4, m5))))
   else
    zl (Q_fr_passMinute (ar 3) b4 b5 (ar 6) (ar 7) (ar 8) (ar 24) (ar 25) b26 (ar 27) (ar 28) (ar 29) (ar 30) b50 b51 (fi 2 6) c2_7 (fi 2 8) c2_9 c2_10 (fi 23 8) (fi 23 9)) (fun v1 => zg v1.isSome (
    some (.inl (3, [.ref 49, .ref 2, .ref 23, .int z, .int (l4 + 1)], [], ((zua (zua (zua (zua (zua (zua (zua (zua (zua (zua ar 4 b4) 5 b5) 26 b26) 50 b50) 51 b51) 4 (((zgt v1).1))) 5 (((zgt v1).2.1))) 26 (((zgt v1).2.2.1))) 50 (((zgt v1).2.2.2.1))) 51 (((zgt v1).2.2.2.2.1))), (zuf (zuf (zuf (zuf (zuf (zuf fi 2 7 c2_7) 2 9 c2_9) 2 10 c2_10) 2 7 (((zgt v1).2.2.2.2.2.1))) 2 9 (((zgt v1).2.2.2.2.2.2.1))) 2 10 (((zgt v1).2.2.2.2.2.2.2))), (m1, m2, m3, m4, m5)))))) : Option ((Nat × List Value × List Value × zH2) ⊕ zO2)) := rfl
theorem k_fr_burnFor_3_49_2_23 {X : Nat × (Nat → Int32)} {ar fi : Nat → Nat → Int32} {m1 m2 m3 m4 m5 : Nat} {z : Int32} {o : zO2} : ∀ (s : U_fr_burnFor_3) (q : U_fr_burnFor_3 ⊕ T_fr_burnFor), f_fr_burnFor_3 z (ar 3) (ar 6) (ar 7) (ar 8) (ar 24) (ar 25) (ar 27) (ar 28) (ar 29) (ar 30) (fi 2 6) (fi 2 8) (fi 23 8) (fi 23 9) s = some q → zq (M_fr_burnFor_3_49_2_23 X (zEx 21 S_fr_passMinute zE0) ar fi m1 m2 m3 m4 m5 z o) (fun t => O_fr_burnFor_49_2_23 ar fi m1 m2 m3 m4 m5 t = o) q → M_fr_burnFor_3_49_2_23 X (zEx 21 S_fr_passMinute zE0) ar fi m1 m2 m3 m4 m5 z o s := by
  intro s q h hq
  obtain ⟨l4, b4, b5, b26, b50, b51, c2_7, c2_9, c2_10⟩ := s
  have h : b_fr_burnFor_3 z (ar 3) (ar 6) (ar 7) (ar 8) (ar 24) (ar 25) (ar 27) (ar 28) (ar 29) (ar 30) (fi 2 6) (fi 2 8) (fi 23 8) (fi 23 9) l4 b4 b5 b26 b50 b51 c2_7 c2_9 c2_10 = some q := h
  unfold b_fr_burnFor_3 at h
  show zR2 X zFT (zEx 21 S_fr_passMinute zE0) zc_20 3 [.ref 49, .ref 2, .ref 23, .int z, .int l4] [] ((zua (zua (zua (zua (zua ar 4 b4) 5 b5) 26 b26) 50 b50) 51 b51), (zuf (zuf (zuf fi 2 7 c2_7) 2 9 c2_9) 2 10 c2_10), (m1, m2, m3, m4, m5)) o
  refine zT_seg t3_fr_burnFor_49_2_23 ?_
  refine zb_el h (fun hb h => zT_t hb ?_) (fun hb h => zT_f hb ?_)
  · have hz := zsi h hq
    refine (zO_mk ?_ ?_).trans hz
    · first | with_reducible rfl | (exact zuas_eq _ [(4, _), (5, _), (26, _), (50, _), (51, _)] [(4, _), (5, _), (26, _), (50, _), (51, _)] [4, 5, 26, 50, 51] rfl rfl ⟨rfl, rfl, rfl, rfl, rfl, trivial⟩)
    · first | with_reducible rfl | (exact zufs_eq _ [(2, 7, _), (2, 9, _), (2, 10, _)] [(2, 7, _), (2, 9, _), (2, 10, _)] [(2, 7), (2, 9), (2, 10)] rfl rfl ⟨rfl, rfl, rfl, trivial⟩)
  · refine zb_el h (fun hb h => zT_t hb ?_) (fun hb h => zT_f hb ?_)
    · have hz := zsi h hq
      refine (zO_mk ?_ ?_).trans hz
      · first | with_reducible rfl | (exact zuas_eq _ [(4, _), (5, _), (26, _), (50, _), (51, _)] [(4, _), (5, _), (26, _), (50, _), (51, _)] [4, 5, 26, 50, 51] rfl rfl ⟨rfl, rfl, rfl, rfl, rfl, trivial⟩)
      · first | with_reducible rfl | (exact zufs_eq _ [(2, 7, _), (2, 9, _), (2, 10, _)] [(2, 7, _), (2, 9, _), (2, 10, _)] [(2, 7), (2, 9), (2, 10)] rfl rfl ⟨rfl, rfl, rfl, trivial⟩)
    · refine zbd_el h (fun v1 hv h => zT_c hv ?_)
      have hz := zsi h hq
      refine zR2_hp ?_ ?_ hz
      · first | with_reducible rfl | (exact zuas_eq _ [(4, _), (5, _), (26, _), (50, _), (51, _), (4, _), (5, _), (26, _), (50, _), (51, _)] [(4, _), (5, _), (26, _), (50, _), (51, _)] [4, 5, 26, 50, 51] rfl rfl ⟨rfl, rfl, rfl, rfl, rfl, trivial⟩)
      · first | with_reducible rfl | (exact zufs_eq _ [(2, 7, _), (2, 9, _), (2, 10, _), (2, 7, _), (2, 9, _), (2, 10, _)] [(2, 7, _), (2, 9, _), (2, 10, _)] [(2, 7), (2, 9), (2, 10)] rfl rfl ⟨rfl, rfl, rfl, trivial⟩)
set_option maxRecDepth 20000 in
theorem t_fr_burnFor_49_2_23 {X : Nat × (Nat → Int32)} {ar fi : Nat → Nat → Int32} {m1 m2 m3 m4 m5 : Nat} {z : Int32} {Q_fr_passMinute : (Nat → Int32) → (Nat → Int32) → (Nat → Int32) → (Nat → Int32) → (Nat → Int32) → (Nat → Int32) → (Nat → Int32) → (Nat → Int32) → (Nat → Int32) → (Nat → Int32) → (Nat → Int32) → (Nat → Int32) → (Nat → Int32) → (Nat → Int32) → (Nat → Int32) → Int32 → Int32 → Int32 → Int32 → Int32 → Int32 → Int32 → Option ((Nat → Int32) × (Nat → Int32) × (Nat → Int32) × (Nat → Int32) × (Nat → Int32) × Int32 × Int32 × Int32)} : zseg X zFT (zEx 21 (P_fr_passMinute Q_fr_passMinute) zE0) zc_20 (fun p => Nat.beq p 3) 400 0 [.ref 49, .ref 2, .ref 23, .int z] [] (ar, fi, (m1, m2, m3, m4, m5)) = (
  some (.inl (3, [.ref 49, .ref 2, .ref 23, .int z, .int 0], [], (ar, fi, (m1, m2, m3, m4, m5)))) : Option ((Nat × List Value × List Value × zH2) ⊕ zO2)) := rfl
theorem e_fr_burnFor_49_2_23 {X : Nat × (Nat → Int32)} {ar fi : Nat → Nat → Int32} {m1 m2 m3 m4 m5 : Nat} {z : Int32} {o : zO2} : ∀ (q : T_fr_burnFor), q_fr_burnFor z (ar 3) (ar 4) (ar 5) (ar 6) (ar 7) (ar 8) (ar 24) (ar 25) (ar 26) (ar 27) (ar 28) (ar 29) (ar 30) (ar 50) (ar 51) (fi 2 6) (fi 2 7) (fi 2 8) (fi 2 9) (fi 2 10) (fi 23 8) (fi 23 9) = some q → (fun t => O_fr_burnFor_49_2_23 ar fi m1 m2 m3 m4 m5 t = o) q → zR2 X zFT (zEx 21 S_fr_passMinute zE0) zc_20 0 [.ref 49, .ref 2, .ref 23, .int z] [] (ar, fi, (m1, m2, m3, m4, m5)) o := by
  intro q h hq
  unfold q_fr_burnFor at h
  refine zT_seg t_fr_burnFor_49_2_23 ?_
  refine zR2_hp ?_ ?_ (zlp_K k_fr_burnFor_3_49_2_23 h hq)
  · first | with_reducible rfl | (exact zuas_eq _ [] [(4, _), (5, _), (26, _), (50, _), (51, _)] [4, 5, 26, 50, 51] rfl rfl ⟨rfl, rfl, rfl, rfl, rfl, trivial⟩)
  · first | with_reducible rfl | (exact zufs_eq _ [] [(2, 7, _), (2, 9, _), (2, 10, _)] [(2, 7), (2, 9), (2, 10)] rfl rfl ⟨rfl, rfl, rfl, trivial⟩)
def O_fr_burnFor_49_2_31 (ar fi : Nat → Nat → Int32) (m1 : Nat) (m2 : Nat) (m3 : Nat) (m4 : Nat) (m5 : Nat) (t : T_fr_burnFor) : zO2 := (none, ((zua (zua (zua (zua (zua ar 4 t.1) 5 t.2.1) 34 t.2.2.1) 50 t.2.2.2.1) 51 t.2.2.2.2.1), (zuf (zuf (zuf fi 2 7 t.2.2.2.2.2.1) 2 9 t.2.2.2.2.2.2.1) 2 10 t.2.2.2.2.2.2.2), (m1, m2, m3, m4, m5)))
def M_fr_burnFor_3_49_2_31 (X : Nat × (Nat → Int32)) (E : zTE) (ar fi : Nat → Nat → Int32) (m1 : Nat) (m2 : Nat) (m3 : Nat) (m4 : Nat) (m5 : Nat) (z : Int32) (o : zO2) (s : U_fr_burnFor_3) : Prop := zR2 X zFT E zc_20 3 [.ref 49, .ref 2, .ref 31, .int z, .int s.1] [] ((zua (zua (zua (zua (zua ar 4 s.2.1) 5 s.2.2.1) 34 s.2.2.2.1) 50 s.2.2.2.2.1) 51 s.2.2.2.2.2.1), (zuf (zuf (zuf fi 2 7 s.2.2.2.2.2.2.1) 2 9 s.2.2.2.2.2.2.2.1) 2 10 s.2.2.2.2.2.2.2.2), (m1, m2, m3, m4, m5)) o
set_option maxRecDepth 20000 in
theorem t3_fr_burnFor_49_2_31 {X : Nat × (Nat → Int32)} {ar fi : Nat → Nat → Int32} {m1 m2 m3 m4 m5 : Nat} {z : Int32} {l4 : Int32} {b4 : Nat → Int32} {b5 : Nat → Int32} {b34 : Nat → Int32} {b50 : Nat → Int32} {b51 : Nat → Int32} {c2_7 : Int32} {c2_9 : Int32} {c2_10 : Int32} {Q_fr_passMinute : (Nat → Int32) → (Nat → Int32) → (Nat → Int32) → (Nat → Int32) → (Nat → Int32) → (Nat → Int32) → (Nat → Int32) → (Nat → Int32) → (Nat → Int32) → (Nat → Int32) → (Nat → Int32) → (Nat → Int32) → (Nat → Int32) → (Nat → Int32) → (Nat → Int32) → Int32 → Int32 → Int32 → Int32 → Int32 → Int32 → Int32 → Option ((Nat → Int32) × (Nat → Int32) × (Nat → Int32) × (Nat → Int32) × (Nat → Int32) × Int32 × Int32 × Int32)} : zseg X zFT (zEx 21 (P_fr_passMinute Q_fr_passMinute) zE0) zc_20 (fun p => Nat.beq p 3) 400 3 [.ref 49, .ref 2, .ref 31, .int z, .int l4] [] ((zua (zua (zua (zua (zua ar 4 b4) 5 b5) 34 b34) 50 b50) 51 b51), (zuf (zuf (zuf fi 2 7 c2_7) 2 9 c2_9) 2 10 c2_10), (m1, m2, m3, m4, m5)) = (
  bif decide (z ≤ l4) then
   some (.inr (none, ((zua (zua (zua (zua (zua ar 4 b4) 5 b5) 34 b34) 50 b50) 51 b51), (zuf (zuf (zuf fi 2 7 c2_7) 2 9 c2_9) 2 10 c2_10), (m1, m2, m3, m4, m5))))
  else
   bif decide (9999 ≤ c2_9) then
    some (.inr (none, ((zua (zua (zua (zua (zua ar 4 b4) 5 b5) 34 b34) 50 b50) 51 b51), (zuf (zuf (zuf fi 2 7 c2_7) 2 9 c2_9) 2 10 c2_10), (m1, m2, m3, m4, m5))))
   else
    zl (Q_fr_passMinute (ar 3) b4 b5 (ar 6) (ar 7) (ar 8) (ar 32) (ar 33) b34 (ar 35) (ar 36) (ar 37) (ar 38) b50 b51 (fi 2 6) c2_7 (fi 2 8) c2_9 c2_10 (fi 31 8) (fi 31 9)) (fun v1 => zg v1.isSome (
    some (.inl (3, [.ref 49, .ref 2, .ref 31, .int z, .int (l4 + 1)], [], ((zua (zua (zua (zua (zua (zua (zua (zua (zua (zua ar 4 b4) 5 b5) 34 b34) 50 b50) 51 b51) 4 (((zgt v1).1))) 5 (((zgt v1).2.1))) 34 (((zgt v1).2.2.1))) 50 (((zgt v1).2.2.2.1))) 51 (((zgt v1).2.2.2.2.1))), (zuf (zuf (zuf (zuf (zuf (zuf fi 2 7 c2_7) 2 9 c2_9) 2 10 c2_10) 2 7 (((zgt v1).2.2.2.2.2.1))) 2 9 (((zgt v1).2.2.2.2.2.2.1))) 2 10 (((zgt v1).2.2.2.2.2.2.2))), (m1, m2, m3, m4, m5)))))) : Option ((Nat × List Value × List Value × zH2) ⊕ zO2)) := rfl
theorem k_fr_burnFor_3_49_2_31 {X : Nat × (Nat → Int32)} {ar fi : Nat → Nat → Int32} {m1 m2 m3 m4 m5 : Nat} {z : Int32} {o : zO2} : ∀ (s : U_fr_burnFor_3) (q : U_fr_burnFor_3 ⊕ T_fr_burnFor), f_fr_burnFor_3 z (ar 3) (ar 6) (ar 7) (ar 8) (ar 32) (ar 33) (ar 35) (ar 36) (ar 37) (ar 38) (fi 2 6) (fi 2 8) (fi 31 8) (fi 31 9) s = some q → zq (M_fr_burnFor_3_49_2_31 X (zEx 21 S_fr_passMinute zE0) ar fi m1 m2 m3 m4 m5 z o) (fun t => O_fr_burnFor_49_2_31 ar fi m1 m2 m3 m4 m5 t = o) q → M_fr_burnFor_3_49_2_31 X (zEx 21 S_fr_passMinute zE0) ar fi m1 m2 m3 m4 m5 z o s := by
  intro s q h hq
  obtain ⟨l4, b4, b5, b34, b50, b51, c2_7, c2_9, c2_10⟩ := s
  have h : b_fr_burnFor_3 z (ar 3) (ar 6) (ar 7) (ar 8) (ar 32) (ar 33) (ar 35) (ar 36) (ar 37) (ar 38) (fi 2 6) (fi 2 8) (fi 31 8) (fi 31 9) l4 b4 b5 b34 b50 b51 c2_7 c2_9 c2_10 = some q := h
  unfold b_fr_burnFor_3 at h
  show zR2 X zFT (zEx 21 S_fr_passMinute zE0) zc_20 3 [.ref 49, .ref 2, .ref 31, .int z, .int l4] [] ((zua (zua (zua (zua (zua ar 4 b4) 5 b5) 34 b34) 50 b50) 51 b51), (zuf (zuf (zuf fi 2 7 c2_7) 2 9 c2_9) 2 10 c2_10), (m1, m2, m3, m4, m5)) o
  refine zT_seg t3_fr_burnFor_49_2_31 ?_
  refine zb_el h (fun hb h => zT_t hb ?_) (fun hb h => zT_f hb ?_)
  · have hz := zsi h hq
    refine (zO_mk ?_ ?_).trans hz
    · first | with_reducible rfl | (exact zuas_eq _ [(4, _), (5, _), (34, _), (50, _), (51, _)] [(4, _), (5, _), (34, _), (50, _), (51, _)] [4, 5, 34, 50, 51] rfl rfl ⟨rfl, rfl, rfl, rfl, rfl, trivial⟩)
    · first | with_reducible rfl | (exact zufs_eq _ [(2, 7, _), (2, 9, _), (2, 10, _)] [(2, 7, _), (2, 9, _), (2, 10, _)] [(2, 7), (2, 9), (2, 10)] rfl rfl ⟨rfl, rfl, rfl, trivial⟩)
  · refine zb_el h (fun hb h => zT_t hb ?_) (fun hb h => zT_f hb ?_)
    · have hz := zsi h hq
      refine (zO_mk ?_ ?_).trans hz
      · first | with_reducible rfl | (exact zuas_eq _ [(4, _), (5, _), (34, _), (50, _), (51, _)] [(4, _), (5, _), (34, _), (50, _), (51, _)] [4, 5, 34, 50, 51] rfl rfl ⟨rfl, rfl, rfl, rfl, rfl, trivial⟩)
      · first | with_reducible rfl | (exact zufs_eq _ [(2, 7, _), (2, 9, _), (2, 10, _)] [(2, 7, _), (2, 9, _), (2, 10, _)] [(2, 7), (2, 9), (2, 10)] rfl rfl ⟨rfl, rfl, rfl, trivial⟩)
    · refine zbd_el h (fun v1 hv h => zT_c hv ?_)
      have hz := zsi h hq
      refine zR2_hp ?_ ?_ hz
      · first | with_reducible rfl | (exact zuas_eq _ [(4, _), (5, _), (34, _), (50, _), (51, _), (4, _), (5, _), (34, _), (50, _), (51, _)] [(4, _), (5, _), (34, _), (50, _), (51, _)] [4, 5, 34, 50, 51] rfl rfl ⟨rfl, rfl, rfl, rfl, rfl, trivial⟩)
      · first | with_reducible rfl | (exact zufs_eq _ [(2, 7, _), (2, 9, _), (2, 10, _), (2, 7, _), (2, 9, _), (2, 10, _)] [(2, 7, _), (2, 9, _), (2, 10, _)] [(2, 7), (2, 9), (2, 10)] rfl rfl ⟨rfl, rfl, rfl, trivial⟩)
set_option maxRecDepth 20000 in
theorem t_fr_burnFor_49_2_31 {X : Nat × (Nat → Int32)} {ar fi : Nat → Nat → Int32} {m1 m2 m3 m4 m5 : Nat} {z : Int32} {Q_fr_passMinute : (Nat → Int32) → (Nat → Int32) → (Nat → Int32) → (Nat → Int32) → (Nat → Int32) → (Nat → Int32) → (Nat → Int32) → (Nat → Int32) → (Nat → Int32) → (Nat → Int32) → (Nat → Int32) → (Nat → Int32) → (Nat → Int32) → (Nat → Int32) → (Nat → Int32) → Int32 → Int32 → Int32 → Int32 → Int32 → Int32 → Int32 → Option ((Nat → Int32) × (Nat → Int32) × (Nat → Int32) × (Nat → Int32) × (Nat → Int32) × Int32 × Int32 × Int32)} : zseg X zFT (zEx 21 (P_fr_passMinute Q_fr_passMinute) zE0) zc_20 (fun p => Nat.beq p 3) 400 0 [.ref 49, .ref 2, .ref 31, .int z] [] (ar, fi, (m1, m2, m3, m4, m5)) = (
  some (.inl (3, [.ref 49, .ref 2, .ref 31, .int z, .int 0], [], (ar, fi, (m1, m2, m3, m4, m5)))) : Option ((Nat × List Value × List Value × zH2) ⊕ zO2)) := rfl
theorem e_fr_burnFor_49_2_31 {X : Nat × (Nat → Int32)} {ar fi : Nat → Nat → Int32} {m1 m2 m3 m4 m5 : Nat} {z : Int32} {o : zO2} : ∀ (q : T_fr_burnFor), q_fr_burnFor z (ar 3) (ar 4) (ar 5) (ar 6) (ar 7) (ar 8) (ar 32) (ar 33) (ar 34) (ar 35) (ar 36) (ar 37) (ar 38) (ar 50) (ar 51) (fi 2 6) (fi 2 7) (fi 2 8) (fi 2 9) (fi 2 10) (fi 31 8) (fi 31 9) = some q → (fun t => O_fr_burnFor_49_2_31 ar fi m1 m2 m3 m4 m5 t = o) q → zR2 X zFT (zEx 21 S_fr_passMinute zE0) zc_20 0 [.ref 49, .ref 2, .ref 31, .int z] [] (ar, fi, (m1, m2, m3, m4, m5)) o := by
  intro q h hq
  unfold q_fr_burnFor at h
  refine zT_seg t_fr_burnFor_49_2_31 ?_
  refine zR2_hp ?_ ?_ (zlp_K k_fr_burnFor_3_49_2_31 h hq)
  · first | with_reducible rfl | (exact zuas_eq _ [] [(4, _), (5, _), (34, _), (50, _), (51, _)] [4, 5, 34, 50, 51] rfl rfl ⟨rfl, rfl, rfl, rfl, rfl, trivial⟩)
  · first | with_reducible rfl | (exact zufs_eq _ [] [(2, 7, _), (2, 9, _), (2, 10, _)] [(2, 7), (2, 9), (2, 10)] rfl rfl ⟨rfl, rfl, rfl, trivial⟩)
def O_fr_burnFor_49_16_23 (ar fi : Nat → Nat → Int32) (m1 : Nat) (m2 : Nat) (m3 : Nat) (m4 : Nat) (m5 : Nat) (t : T_fr_burnFor) : zO2 := (none, ((zua (zua (zua (zua (zua ar 18 t.1) 19 t.2.1) 26 t.2.2.1) 50 t.2.2.2.1) 51 t.2.2.2.2.1), (zuf (zuf (zuf fi 16 7 t.2.2.2.2.2.1) 16 9 t.2.2.2.2.2.2.1) 16 10 t.2.2.2.2.2.2.2), (m1, m2, m3, m4, m5)))
def M_fr_burnFor_3_49_16_23 (X : Nat × (Nat → Int32)) (E : zTE) (ar fi : Nat → Nat → Int32) (m1 : Nat) (m2 : Nat) (m3 : Nat) (m4 : Nat) (m5 : Nat) (z : Int32) (o : zO2) (s : U_fr_burnFor_3) : Prop := zR2 X zFT E zc_20 3 [.ref 49, .ref 16, .ref 23, .int z, .int s.1] [] ((zua (zua (zua (zua (zua ar 18 s.2.1) 19 s.2.2.1) 26 s.2.2.2.1) 50 s.2.2.2.2.1) 51 s.2.2.2.2.2.1), (zuf (zuf (zuf fi 16 7 s.2.2.2.2.2.2.1) 16 9 s.2.2.2.2.2.2.2.1) 16 10 s.2.2.2.2.2.2.2.2), (m1, m2, m3, m4, m5)) o
set_option maxRecDepth 20000 in
theorem t3_fr_burnFor_49_16_23 {X : Nat × (Nat → Int32)} {ar fi : Nat → Nat → Int32} {m1 m2 m3 m4 m5 : Nat} {z : Int32} {l4 : Int32} {b18 : Nat → Int32} {b19 : Nat → Int32} {b26 : Nat → Int32} {b50 : Nat → Int32} {b51 : Nat → Int32} {c16_7 : Int32} {c16_9 : Int32} {c16_10 : Int32} {Q_fr_passMinute : (Nat → Int32) → (Nat → Int32) → (Nat → Int32) → (Nat → Int32) → (Nat → Int32) → (Nat → Int32) → (Nat → Int32) → (Nat → Int32) → (Nat → Int32) → (Nat → Int32) → (Nat → Int32) → (Nat → Int32) → (Nat → Int32) → (Nat → Int32) → (Nat → Int32) → Int32 → Int32 → Int32 → Int32 → Int32 → Int32 → Int32 → Option ((Nat → Int32) × (Nat → Int32) × (Nat → Int32) × (Nat → Int32) × (Nat → Int32) × Int32 × Int32 × Int32)} : zseg X zFT (zEx 21 (P_fr_passMinute Q_fr_passMinute) zE0) zc_20 (fun p => Nat.beq p 3) 400 3 [.ref 49, .ref 16, .ref 23, .int z, .int l4] [] ((zua (zua (zua (zua (zua ar 18 b18) 19 b19) 26 b26) 50 b50) 51 b51), (zuf (zuf (zuf fi 16 7 c16_7) 16 9 c16_9) 16 10 c16_10), (m1, m2, m3, m4, m5)) = (
  bif decide (z ≤ l4) then
   some (.inr (none, ((zua (zua (zua (zua (zua ar 18 b18) 19 b19) 26 b26) 50 b50) 51 b51), (zuf (zuf (zuf fi 16 7 c16_7) 16 9 c16_9) 16 10 c16_10), (m1, m2, m3, m4, m5))))
  else
   bif decide (9999 ≤ c16_9) then
    some (.inr (none, ((zua (zua (zua (zua (zua ar 18 b18) 19 b19) 26 b26) 50 b50) 51 b51), (zuf (zuf (zuf fi 16 7 c16_7) 16 9 c16_9) 16 10 c16_10), (m1, m2, m3, m4, m5))))
   else
    zl (Q_fr_passMinute (ar 17) b18 b19 (ar 20) (ar 21) (ar 22) (ar 24) (ar 25) b26 (ar 27) (ar 28) (ar 29) (ar 30) b50 b51 (fi 16 6) c16_7 (fi 16 8) c16_9 c16_10 (fi 23 8) (fi 23 9)) (fun v1 => zg v1.isSome (
    some (.inl (3, [.ref 49, .ref 16, .ref 23, .int z, .int (l4 + 1)], [], ((zua (zua (zua (zua (zua (zua (zua (zua (zua (zua ar 18 b18) 19 b19) 26 b26) 50 b50) 51 b51) 18 (((zgt v1).1))) 19 (((zgt v1).2.1))) 26 (((zgt v1).2.2.1))) 50 (((zgt v1).2.2.2.1))) 51 (((zgt v1).2.2.2.2.1))), (zuf (zuf (zuf (zuf (zuf (zuf fi 16 7 c16_7) 16 9 c16_9) 16 10 c16_10) 16 7 (((zgt v1).2.2.2.2.2.1))) 16 9 (((zgt v1).2.2.2.2.2.2.1))) 16 10 (((zgt v1).2.2.2.2.2.2.2))), (m1, m2, m3, m4, m5)))))) : Option ((Nat × List Value × List Value × zH2) ⊕ zO2)) := rfl
theorem k_fr_burnFor_3_49_16_23 {X : Nat × (Nat → Int32)} {ar fi : Nat → Nat → Int32} {m1 m2 m3 m4 m5 : Nat} {z : Int32} {o : zO2} : ∀ (s : U_fr_burnFor_3) (q : U_fr_burnFor_3 ⊕ T_fr_burnFor), f_fr_burnFor_3 z (ar 17) (ar 20) (ar 21) (ar 22) (ar 24) (ar 25) (ar 27) (ar 28) (ar 29) (ar 30) (fi 16 6) (fi 16 8) (fi 23 8) (fi 23 9) s = some q → zq (M_fr_burnFor_3_49_16_23 X (zEx 21 S_fr_passMinute zE0) ar fi m1 m2 m3 m4 m5 z o) (fun t => O_fr_burnFor_49_16_23 ar fi m1 m2 m3 m4 m5 t = o) q → M_fr_burnFor_3_49_16_23 X (zEx 21 S_fr_passMinute zE0) ar fi m1 m2 m3 m4 m5 z o s := by
  intro s q h hq
  obtain ⟨l4, b18, b19, b26, b50, b51, c16_7, c16_9, c16_10⟩ := s
  have h : b_fr_burnFor_3 z (ar 17) (ar 20) (ar 21) (ar 22) (ar 24) (ar 25) (ar 27) (ar 28) (ar 29) (ar 30) (fi 16 6) (fi 16 8) (fi 23 8) (fi 23 9) l4 b18 b19 b26 b50 b51 c16_7 c16_9 c16_10 = some q := h
  unfold b_fr_burnFor_3 at h
  show zR2 X zFT (zEx 21 S_fr_passMinute zE0) zc_20 3 [.ref 49, .ref 16, .ref 23, .int z, .int l4] [] ((zua (zua (zua (zua (zua ar 18 b18) 19 b19) 26 b26) 50 b50) 51 b51), (zuf (zuf (zuf fi 16 7 c16_7) 16 9 c16_9) 16 10 c16_10), (m1, m2, m3, m4, m5)) o
  refine zT_seg t3_fr_burnFor_49_16_23 ?_
  refine zb_el h (fun hb h => zT_t hb ?_) (fun hb h => zT_f hb ?_)
  · have hz := zsi h hq
    refine (zO_mk ?_ ?_).trans hz
    · first | with_reducible rfl | (exact zuas_eq _ [(18, _), (19, _), (26, _), (50, _), (51, _)] [(18, _), (19, _), (26, _), (50, _), (51, _)] [18, 19, 26, 50, 51] rfl rfl ⟨rfl, rfl, rfl, rfl, rfl, trivial⟩)
    · first | with_reducible rfl | (exact zufs_eq _ [(16, 7, _), (16, 9, _), (16, 10, _)] [(16, 7, _), (16, 9, _), (16, 10, _)] [(16, 7), (16, 9), (16, 10)] rfl rfl ⟨rfl, rfl, rfl, trivial⟩)
  · refine zb_el h (fun hb h => zT_t hb ?_) (fun hb h => zT_f hb ?_)
    · have hz := zsi h hq
      refine (zO_mk ?_ ?_).trans hz
      · first | with_reducible rfl | (exact zuas_eq _ [(18, _), (19, _), (26, _), (50, _), (51, _)] [(18, _), (19, _), (26, _), (50, _), (51, _)] [18, 19, 26, 50, 51] rfl rfl ⟨rfl, rfl, rfl, rfl, rfl, trivial⟩)
      · first | with_reducible rfl | (exact zufs_eq _ [(16, 7, _), (16, 9, _), (16, 10, _)] [(16, 7, _), (16, 9, _), (16, 10, _)] [(16, 7), (16, 9), (16, 10)] rfl rfl ⟨rfl, rfl, rfl, trivial⟩)
    · refine zbd_el h (fun v1 hv h => zT_c hv ?_)
      have hz := zsi h hq
      refine zR2_hp ?_ ?_ hz
      · first | with_reducible rfl | (exact zuas_eq _ [(18, _), (19, _), (26, _), (50, _), (51, _), (18, _), (19, _), (26, _), (50, _), (51, _)] [(18, _), (19, _), (26, _), (50, _), (51, _)] [18, 19, 26, 50, 51] rfl rfl ⟨rfl, rfl, rfl, rfl, rfl, trivial⟩)
      · first | with_reducible rfl | (exact zufs_eq _ [(16, 7, _), (16, 9, _), (16, 10, _), (16, 7, _), (16, 9, _), (16, 10, _)] [(16, 7, _), (16, 9, _), (16, 10, _)] [(16, 7), (16, 9), (16, 10)] rfl rfl ⟨rfl, rfl, rfl, trivial⟩)
set_option maxRecDepth 20000 in
theorem t_fr_burnFor_49_16_23 {X : Nat × (Nat → Int32)} {ar fi : Nat → Nat → Int32} {m1 m2 m3 m4 m5 : Nat} {z : Int32} {Q_fr_passMinute : (Nat → Int32) → (Nat → Int32) → (Nat → Int32) → (Nat → Int32) → (Nat → Int32) → (Nat → Int32) → (Nat → Int32) → (Nat → Int32) → (Nat → Int32) → (Nat → Int32) → (Nat → Int32) → (Nat → Int32) → (Nat → Int32) → (Nat → Int32) → (Nat → Int32) → Int32 → Int32 → Int32 → Int32 → Int32 → Int32 → Int32 → Option ((Nat → Int32) × (Nat → Int32) × (Nat → Int32) × (Nat → Int32) × (Nat → Int32) × Int32 × Int32 × Int32)} : zseg X zFT (zEx 21 (P_fr_passMinute Q_fr_passMinute) zE0) zc_20 (fun p => Nat.beq p 3) 400 0 [.ref 49, .ref 16, .ref 23, .int z] [] (ar, fi, (m1, m2, m3, m4, m5)) = (
  some (.inl (3, [.ref 49, .ref 16, .ref 23, .int z, .int 0], [], (ar, fi, (m1, m2, m3, m4, m5)))) : Option ((Nat × List Value × List Value × zH2) ⊕ zO2)) := rfl
theorem e_fr_burnFor_49_16_23 {X : Nat × (Nat → Int32)} {ar fi : Nat → Nat → Int32} {m1 m2 m3 m4 m5 : Nat} {z : Int32} {o : zO2} : ∀ (q : T_fr_burnFor), q_fr_burnFor z (ar 17) (ar 18) (ar 19) (ar 20) (ar 21) (ar 22) (ar 24) (ar 25) (ar 26) (ar 27) (ar 28) (ar 29) (ar 30) (ar 50) (ar 51) (fi 16 6) (fi 16 7) (fi 16 8) (fi 16 9) (fi 16 10) (fi 23 8) (fi 23 9) = some q → (fun t => O_fr_burnFor_49_16_23 ar fi m1 m2 m3 m4 m5 t = o) q → zR2 X zFT (zEx 21 S_fr_passMinute zE0) zc_20 0 [.ref 49, .ref 16, .ref 23, .int z] [] (ar, fi, (m1, m2, m3, m4, m5)) o := by
  intro q h hq
  unfold q_fr_burnFor at h
  refine zT_seg t_fr_burnFor_49_16_23 ?_
  refine zR2_hp ?_ ?_ (zlp_K k_fr_burnFor_3_49_16_23 h hq)
  · first | with_reducible rfl | (exact zuas_eq _ [] [(18, _), (19, _), (26, _), (50, _), (51, _)] [18, 19, 26, 50, 51] rfl rfl ⟨rfl, rfl, rfl, rfl, rfl, trivial⟩)
  · first | with_reducible rfl | (exact zufs_eq _ [] [(16, 7, _), (16, 9, _), (16, 10, _)] [(16, 7), (16, 9), (16, 10)] rfl rfl ⟨rfl, rfl, rfl, trivial⟩)
def O_fr_burnFor_49_16_31 (ar fi : Nat → Nat → Int32) (m1 : Nat) (m2 : Nat) (m3 : Nat) (m4 : Nat) (m5 : Nat) (t : T_fr_burnFor) : zO2 := (none, ((zua (zua (zua (zua (zua ar 18 t.1) 19 t.2.1) 34 t.2.2.1) 50 t.2.2.2.1) 51 t.2.2.2.2.1), (zuf (zuf (zuf fi 16 7 t.2.2.2.2.2.1) 16 9 t.2.2.2.2.2.2.1) 16 10 t.2.2.2.2.2.2.2), (m1, m2, m3, m4, m5)))
def M_fr_burnFor_3_49_16_31 (X : Nat × (Nat → Int32)) (E : zTE) (ar fi : Nat → Nat → Int32) (m1 : Nat) (m2 : Nat) (m3 : Nat) (m4 : Nat) (m5 : Nat) (z : Int32) (o : zO2) (s : U_fr_burnFor_3) : Prop := zR2 X zFT E zc_20 3 [.ref 49, .ref 16, .ref 31, .int z, .int s.1] [] ((zua (zua (zua (zua (zua ar 18 s.2.1) 19 s.2.2.1) 34 s.2.2.2.1) 50 s.2.2.2.2.1) 51 s.2.2.2.2.2.1), (zuf (zuf (zuf fi 16 7 s.2.2.2.2.2.2.1) 16 9 s.2.2.2.2.2.2.2.1) 16 10 s.2.2.2.2.2.2.2.2), (m1, m2, m3, m4, m5)) o
set_option maxRecDepth 20000 in
theorem t3_fr_burnFor_49_16_31 {X : Nat × (Nat → Int32)} {ar fi : Nat → Nat → Int32} {m1 m2 m3 m4 m5 : Nat} {z : Int32} {l4 : Int32} {b18 : Nat → Int32} {b19 : Nat → Int32} {b34 : Nat → Int32} {b50 : Nat → Int32} {b51 : Nat → Int32} {c16_7 : Int32} {c16_9 : Int32} {c16_10 : Int32} {Q_fr_passMinute : (Nat → Int32) → (Nat → Int32) → (Nat → Int32) → (Nat → Int32) → (Nat → Int32) → (Nat → Int32) → (Nat → Int32) → (Nat → Int32) → (Nat → Int32) → (Nat → Int32) → (Nat → Int32) → (Nat → Int32) → (Nat → Int32) → (Nat → Int32) → (Nat → Int32) → Int32 → Int32 → Int32 → Int32 → Int32 → Int32 → Int32 → Option ((Nat → Int32) × (Nat → Int32) × (Nat → Int32) × (Nat → Int32) × (Nat → Int32) × Int32 × Int32 × Int32)} : zseg X zFT (zEx 21 (P_fr_passMinute Q_fr_passMinute) zE0) zc_20 (fun p => Nat.beq p 3) 400 3 [.ref 49, .ref 16, .ref 31, .int z, .int l4] [] ((zua (zua (zua (zua (zua ar 18 b18) 19 b19) 34 b34) 50 b50) 51 b51), (zuf (zuf (zuf fi 16 7 c16_7) 16 9 c16_9) 16 10 c16_10), (m1, m2, m3, m4, m5)) = (
  bif decide (z ≤ l4) then
   some (.inr (none, ((zua (zua (zua (zua (zua ar 18 b18) 19 b19) 34 b34) 50 b50) 51 b51), (zuf (zuf (zuf fi 16 7 c16_7) 16 9 c16_9) 16 10 c16_10), (m1, m2, m3, m4, m5))))
  else
   bif decide (9999 ≤ c16_9) then
    some (.inr (none, ((zua (zua (zua (zua (zua ar 18 b18) 19 b19) 34 b34) 50 b50) 51 b51), (zuf (zuf (zuf fi 16 7 c16_7) 16 9 c16_9) 16 10 c16_10), (m1, m2, m3, m4, m5))))
   else
    zl (Q_fr_passMinute (ar 17) b18 b19 (ar 20) (ar 21) (ar 22) (ar 32) (ar 33) b34 (ar 35) (ar 36) (ar 37) (ar 38) b50 b51 (fi 16 6) c16_7 (fi 16 8) c16_9 c16_10 (fi 31 8) (fi 31 9)) (fun v1 => zg v1.isSome (
    some (.inl (3, [.ref 49, .ref 16, .ref 31, .int z, .int (l4 + 1)], [], ((zua (zua (zua (zua (zua (zua (zua (zua (zua (zua ar 18 b18) 19 b19) 34 b34) 50 b50) 51 b51) 18 (((zgt v1).1))) 19 (((zgt v1).2.1))) 34 (((zgt v1).2.2.1))) 50 (((zgt v1).2.2.2.1))) 51 (((zgt v1).2.2.2.2.1))), (zuf (zuf (zuf (zuf (zuf (zuf fi 16 7 c16_7) 16 9 c16_9) 16 10 c16_10) 16 7 (((zgt v1).2.2.2.2.2.1))) 16 9 (((zgt v1).2.2.2.2.2.2.1))) 16 10 (((zgt v1).2.2.2.2.2.2.2))), (m1, m2, m3, m4, m5)))))) : Option ((Nat × List Value × List Value × zH2) ⊕ zO2)) := rfl
theorem k_fr_burnFor_3_49_16_31 {X : Nat × (Nat → Int32)} {ar fi : Nat → Nat → Int32} {m1 m2 m3 m4 m5 : Nat} {z : Int32} {o : zO2} : ∀ (s : U_fr_burnFor_3) (q : U_fr_burnFor_3 ⊕ T_fr_burnFor), f_fr_burnFor_3 z (ar 17) (ar 20) (ar 21) (ar 22) (ar 32) (ar 33) (ar 35) (ar 36) (ar 37) (ar 38) (fi 16 6) (fi 16 8) (fi 31 8) (fi 31 9) s = some q → zq (M_fr_burnFor_3_49_16_31 X (zEx 21 S_fr_passMinute zE0) ar fi m1 m2 m3 m4 m5 z o) (fun t => O_fr_burnFor_49_16_31 ar fi m1 m2 m3 m4 m5 t = o) q → M_fr_burnFor_3_49_16_31 X (zEx 21 S_fr_passMinute zE0) ar fi m1 m2 m3 m4 m5 z o s := by
  intro s q h hq
  obtain ⟨l4, b18, b19, b34, b50, b51, c16_7, c16_9, c16_10⟩ := s
  have h : b_fr_burnFor_3 z (ar 17) (ar 20) (ar 21) (ar 22) (ar 32) (ar 33) (ar 35) (ar 36) (ar 37) (ar 38) (fi 16 6) (fi 16 8) (fi 31 8) (fi 31 9) l4 b18 b19 b34 b50 b51 c16_7 c16_9 c16_10 = some q := h
  unfold b_fr_burnFor_3 at h
  show zR2 X zFT (zEx 21 S_fr_passMinute zE0) zc_20 3 [.ref 49, .ref 16, .ref 31, .int z, .int l4] [] ((zua (zua (zua (zua (zua ar 18 b18) 19 b19) 34 b34) 50 b50) 51 b51), (zuf (zuf (zuf fi 16 7 c16_7) 16 9 c16_9) 16 10 c16_10), (m1, m2, m3, m4, m5)) o
  refine zT_seg t3_fr_burnFor_49_16_31 ?_
  refine zb_el h (fun hb h => zT_t hb ?_) (fun hb h => zT_f hb ?_)
  · have hz := zsi h hq
    refine (zO_mk ?_ ?_).trans hz
    · first | with_reducible rfl | (exact zuas_eq _ [(18, _), (19, _), (34, _), (50, _), (51, _)] [(18, _), (19, _), (34, _), (50, _), (51, _)] [18, 19, 34, 50, 51] rfl rfl ⟨rfl, rfl, rfl, rfl, rfl, trivial⟩)
    · first | with_reducible rfl | (exact zufs_eq _ [(16, 7, _), (16, 9, _), (16, 10, _)] [(16, 7, _), (16, 9, _), (16, 10, _)] [(16, 7), (16, 9), (16, 10)] rfl rfl ⟨rfl, rfl, rfl, trivial⟩)
  · refine zb_el h (fun hb h => zT_t hb ?_) (fun hb h => zT_f hb ?_)
    · have hz := zsi h hq
      refine (zO_mk ?_ ?_).trans hz
      · first | with_reducible rfl | (exact zuas_eq _ [(18, _), (19, _), (34, _), (50, _), (51, _)] [(18, _), (19, _), (34, _), (50, _), (51, _)] [18, 19, 34, 50, 51] rfl rfl ⟨rfl, rfl, rfl, rfl, rfl, trivial⟩)
      · first | with_reducible rfl | (exact zufs_eq _ [(16, 7, _), (16, 9, _), (16, 10, _)] [(16, 7, _), (16, 9, _), (16, 10, _)] [(16, 7), (16, 9), (16, 10)] rfl rfl ⟨rfl, rfl, rfl, trivial⟩)
    · refine zbd_el h (fun v1 hv h => zT_c hv ?_)
      have hz := zsi h hq
      refine zR2_hp ?_ ?_ hz
      · first | with_reducible rfl | (exact zuas_eq _ [(18, _), (19, _), (34, _), (50, _), (51, _), (18, _), (19, _), (34, _), (50, _), (51, _)] [(18, _), (19, _), (34, _), (50, _), (51, _)] [18, 19, 34, 50, 51] rfl rfl ⟨rfl, rfl, rfl, rfl, rfl, trivial⟩)
      · first | with_reducible rfl | (exact zufs_eq _ [(16, 7, _), (16, 9, _), (16, 10, _), (16, 7, _), (16, 9, _), (16, 10, _)] [(16, 7, _), (16, 9, _), (16, 10, _)] [(16, 7), (16, 9), (16, 10)] rfl rfl ⟨rfl, rfl, rfl, trivial⟩)
set_option maxRecDepth 20000 in
theorem t_fr_burnFor_49_16_31 {X : Nat × (Nat → Int32)} {ar fi : Nat → Nat → Int32} {m1 m2 m3 m4 m5 : Nat} {z : Int32} {Q_fr_passMinute : (Nat → Int32) → (Nat → Int32) → (Nat → Int32) → (Nat → Int32) → (Nat → Int32) → (Nat → Int32) → (Nat → Int32) → (Nat → Int32) → (Nat → Int32) → (Nat → Int32) → (Nat → Int32) → (Nat → Int32) → (Nat → Int32) → (Nat → Int32) → (Nat → Int32) → Int32 → Int32 → Int32 → Int32 → Int32 → Int32 → Int32 → Option ((Nat → Int32) × (Nat → Int32) × (Nat → Int32) × (Nat → Int32) × (Nat → Int32) × Int32 × Int32 × Int32)} : zseg X zFT (zEx 21 (P_fr_passMinute Q_fr_passMinute) zE0) zc_20 (fun p => Nat.beq p 3) 400 0 [.ref 49, .ref 16, .ref 31, .int z] [] (ar, fi, (m1, m2, m3, m4, m5)) = (
  some (.inl (3, [.ref 49, .ref 16, .ref 31, .int z, .int 0], [], (ar, fi, (m1, m2, m3, m4, m5)))) : Option ((Nat × List Value × List Value × zH2) ⊕ zO2)) := rfl
theorem e_fr_burnFor_49_16_31 {X : Nat × (Nat → Int32)} {ar fi : Nat → Nat → Int32} {m1 m2 m3 m4 m5 : Nat} {z : Int32} {o : zO2} : ∀ (q : T_fr_burnFor), q_fr_burnFor z (ar 17) (ar 18) (ar 19) (ar 20) (ar 21) (ar 22) (ar 32) (ar 33) (ar 34) (ar 35) (ar 36) (ar 37) (ar 38) (ar 50) (ar 51) (fi 16 6) (fi 16 7) (fi 16 8) (fi 16 9) (fi 16 10) (fi 31 8) (fi 31 9) = some q → (fun t => O_fr_burnFor_49_16_31 ar fi m1 m2 m3 m4 m5 t = o) q → zR2 X zFT (zEx 21 S_fr_passMinute zE0) zc_20 0 [.ref 49, .ref 16, .ref 31, .int z] [] (ar, fi, (m1, m2, m3, m4, m5)) o := by
  intro q h hq
  unfold q_fr_burnFor at h
  refine zT_seg t_fr_burnFor_49_16_31 ?_
  refine zR2_hp ?_ ?_ (zlp_K k_fr_burnFor_3_49_16_31 h hq)
  · first | with_reducible rfl | (exact zuas_eq _ [] [(18, _), (19, _), (34, _), (50, _), (51, _)] [18, 19, 34, 50, 51] rfl rfl ⟨rfl, rfl, rfl, rfl, rfl, trivial⟩)
  · first | with_reducible rfl | (exact zufs_eq _ [] [(16, 7, _), (16, 9, _), (16, 10, _)] [(16, 7), (16, 9), (16, 10)] rfl rfl ⟨rfl, rfl, rfl, trivial⟩)
theorem ok_fr_burnFor (X : Nat × (Nat → Int32)) : zOkS X 20 S_fr_burnFor 7 := zOkS_new (zOkE_cons (ok_fr_passMinute X) (by decide) (zOkE_nil X 6)) (by
  intro args g o h
  obtain ⟨ar, fi, m1, m2, m3, m4, m5⟩ := g
  unfold S_fr_burnFor P_fr_burnFor at h
  split at h
  · refine zb_el h (fun hI0 k0 => ?_) (fun _ h10 => ?_)
    · try simp only [Bool.and_eq_true] at hI0
      obtain ⟨⟨j0, j1⟩, j2⟩ := hI0
      have e0 := Nat.eq_of_beq_eq_true j0
      subst e0
      have e1 := Nat.eq_of_beq_eq_true j1
      subst e1
      have e2 := Nat.eq_of_beq_eq_true j2
      subst e2
      exact zpe_el k0 (fun t ht ho => e_fr_burnFor_49_2_23 t ht ho)
    · skip
      refine zb_el h10 (fun hI1 k1 => ?_) (fun _ h11 => ?_)
      · try simp only [Bool.and_eq_true] at hI1
        obtain ⟨⟨j0, j1⟩, j2⟩ := hI1
        have e0 := Nat.eq_of_beq_eq_true j0
        subst e0
        have e1 := Nat.eq_of_beq_eq_true j1
        subst e1
        have e2 := Nat.eq_of_beq_eq_true j2
        subst e2
        exact zpe_el k1 (fun t ht ho => e_fr_burnFor_49_2_31 t ht ho)
      · skip
        refine zb_el h11 (fun hI2 k2 => ?_) (fun _ h12 => ?_)
        · try simp only [Bool.and_eq_true] at hI2
          obtain ⟨⟨j0, j1⟩, j2⟩ := hI2
          have e0 := Nat.eq_of_beq_eq_true j0
          subst e0
          have e1 := Nat.eq_of_beq_eq_true j1
          subst e1
          have e2 := Nat.eq_of_beq_eq_true j2
          subst e2
          exact zpe_el k2 (fun t ht ho => e_fr_burnFor_49_16_23 t ht ho)
        · skip
          refine zb_el h12 (fun hI3 k3 => ?_) (fun _ h13 => ?_)
          · try simp only [Bool.and_eq_true] at hI3
            obtain ⟨⟨j0, j1⟩, j2⟩ := hI3
            have e0 := Nat.eq_of_beq_eq_true j0
            subst e0
            have e1 := Nat.eq_of_beq_eq_true j1
            subst e1
            have e2 := Nat.eq_of_beq_eq_true j2
            subst e2
            exact zpe_el k3 (fun t ht ho => e_fr_burnFor_49_16_31 t ht ho)
          · cases h13
  · cases h)
