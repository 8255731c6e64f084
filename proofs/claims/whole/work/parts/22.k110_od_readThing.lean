abbrev T_od_readThing : Type := (Nat → Int32) × (Nat → Int32) × (Nat → Int32) × Int32 × Int32 × Int32 × Int32 × Int32
noncomputable def q_od_readThing (a1 : Nat → Int32) (a20 : Nat → Int32) (a21 : Nat → Int32) (a22 : Nat → Int32) (f16_6 : Int32) (f16_7 : Int32) (f47_1 : Int32) (f47_2 : Int32) (f47_3 : Int32) (f47_4 : Int32) : Option T_od_readThing :=
  zbd (q_od_readBounded 23 a1 (f47_1) (f47_2) (f47_3) (f47_4)) (fun v1 =>
  zg (g_tx_sign ((v1.2.1)) ((v1.2.2.2)) (f47_1) a1) (
  zl (w_tx_sign ((v1.2.1)) ((v1.2.2.2)) (f47_1) a1) (fun v2 =>
  zl (w_tx_isGood ((v1.2.1))) (fun v3 =>
  bif decide (v3 = 0) then
   some (a20, a21, a22, f16_6, f16_7, (v1.2.1), (v1.2.2.1), (v1.2.2.2))
  else
   zl (w_if_isWithin ((v1.1)) 0 23) (fun v4 =>
   bif !decide (v4 = 0) then
    bif !decide (v2 = 64) then
     bif decide (v2 = 61) then
      zl (w_sc_isTold ((v1.1)) (f16_6)) (fun v5 =>
      bif !decide (v5 = 0) then
       zl (f0_tx_skip ((v1.2.2.2))) (fun v6 =>
       zbd (q_tx_number 4 a1 (f47_1) ((v1.2.1)) ((v1.2.2.1)) v6) (fun v7 =>
       zg (g_od_endLine ((v7.2.2.2)) (f47_1) ((v7.2.1)) a1 ((v7.2.2.1))) (
       zl (f0_od_endLine ((v7.2.2.2)) (f47_1) ((v7.2.1)) a1 ((v7.2.2.1))) (fun v8 =>
       zl (f1_od_endLine ((v7.2.2.2)) (f47_1) ((v7.2.1)) a1 ((v7.2.2.1))) (fun v9 =>
       bif !decide (v2 = 61) then
        zg (zin ((v1.1)) 24) (
        some (a20, a21, (zup a22 (((v1.1)).toNatClampNeg) ((v7.1))), f16_6, f16_7, v8, v9, (v7.2.2.2)))
       else
        zg (zin ((v1.1)) 24) (
        some (a20, (zup a21 (((v1.1)).toNatClampNeg) ((v7.1))), a22, f16_6, f16_7, v8, v9, (v7.2.2.2))))))))
      else
       zl (f0_tx_fail 7 (f47_4) ((v1.2.1)) ((v1.2.2.1))) (fun v10 =>
       zl (f1_tx_fail 7 (f47_4) ((v1.2.1)) ((v1.2.2.1))) (fun v11 =>
       some (a20, a21, a22, f16_6, f16_7, v10, v11, (v1.2.2.2)))))
     else
      bif decide (v2 = 43) then
       zl (w_sc_isTold ((v1.1)) (f16_6)) (fun v12 =>
       bif !decide (v12 = 0) then
        zl (f0_tx_skip ((v1.2.2.2))) (fun v13 =>
        zbd (q_tx_number 4 a1 (f47_1) ((v1.2.1)) ((v1.2.2.1)) v13) (fun v14 =>
        zg (g_od_endLine ((v14.2.2.2)) (f47_1) ((v14.2.1)) a1 ((v14.2.2.1))) (
        zl (f0_od_endLine ((v14.2.2.2)) (f47_1) ((v14.2.1)) a1 ((v14.2.2.1))) (fun v15 =>
        zl (f1_od_endLine ((v14.2.2.2)) (f47_1) ((v14.2.1)) a1 ((v14.2.2.1))) (fun v16 =>
        bif !decide (v2 = 61) then
         zg (zin ((v1.1)) 24) (
         some (a20, a21, (zup a22 (((v1.1)).toNatClampNeg) ((v14.1))), f16_6, f16_7, v15, v16, (v14.2.2.2)))
        else
         zg (zin ((v1.1)) 24) (
         some (a20, (zup a21 (((v1.1)).toNatClampNeg) ((v14.1))), a22, f16_6, f16_7, v15, v16, (v14.2.2.2))))))))
       else
        zl (f0_tx_fail 7 (f47_4) ((v1.2.1)) ((v1.2.2.1))) (fun v17 =>
        zl (f1_tx_fail 7 (f47_4) ((v1.2.1)) ((v1.2.2.1))) (fun v18 =>
        some (a20, a21, a22, f16_6, f16_7, v17, v18, (v1.2.2.2)))))
      else
       zl (f0_tx_fail 1 ((v1.2.2.2)) ((v1.2.1)) ((v1.2.2.1))) (fun v19 =>
       zl (f1_tx_fail 1 ((v1.2.2.2)) ((v1.2.1)) ((v1.2.2.1))) (fun v20 =>
       some (a20, a21, a22, f16_6, f16_7, v19, v20, (v1.2.2.2))))
    else
     zl (f0_tx_skip ((v1.2.2.2))) (fun v21 =>
     zbd (q_od_readPlace a1 (f47_1) ((v1.2.1)) ((v1.2.2.1)) v21) (fun v22 =>
     zg (g_od_endLine ((v22.2.2.2)) (f47_1) ((v22.2.1)) a1 ((v22.2.2.1))) (
     zl (f0_od_endLine ((v22.2.2.2)) (f47_1) ((v22.2.1)) a1 ((v22.2.2.1))) (fun v23 =>
     zl (f1_od_endLine ((v22.2.2.2)) (f47_1) ((v22.2.1)) a1 ((v22.2.2.1))) (fun v24 =>
     zbd (q_od_tellThing ((v1.1)) ((v22.1)) a20 (f16_6) (f16_7) v23) (fun v25 =>
     some (((v25.1)), a21, a22, (v25.2.1), (v25.2.2), v23, v24, (v22.2.2.2))))))))
   else
    some (a20, a21, a22, f16_6, f16_7, (v1.2.1), (v1.2.2.1), (v1.2.2.2)))))))
def P_od_readThing (Q : (Nat → Int32) → (Nat → Int32) → (Nat → Int32) → (Nat → Int32) → Int32 → Int32 → Int32 → Int32 → Int32 → Int32 → Option ((Nat → Int32) × (Nat → Int32) × (Nat → Int32) × Int32 × Int32 × Int32 × Int32 × Int32)) : zSp := fun as g => match as with
  | [.ref a, .ref b] => bif Nat.beq a 46 && Nat.beq b 16 && Nat.beq g.2.2.2.2.2.2 1 then zpe (Q (g.1 1) (g.1 20) (g.1 21) (g.1 22) (g.2.1 16 6) (g.2.1 16 7) (g.2.1 47 1) (g.2.1 47 2) (g.2.1 47 3) (g.2.1 47 4)) (fun t => (none, ((zua (zua (zua g.1 20 t.1) 21 t.2.1) 22 t.2.2.1), (zuf (zuf (zuf (zuf (zuf g.2.1 16 6 t.2.2.2.1) 16 7 t.2.2.2.2.1) 47 2 t.2.2.2.2.2.1) 47 3 t.2.2.2.2.2.2.1) 47 4 t.2.2.2.2.2.2.2), g.2.2))) else none
  | _ => none
noncomputable abbrev S_od_readThing : zSp := P_od_readThing q_od_readThing
theorem hF7_od_readThing (F : Nat → Nat → Int32) (w0 w1 w2 w3 w4 w5 w6 w7 w8 w9 w10 : Int32) : (zuf (zuf (zuf (zuf (zuf (zuf (zuf (zuf (zuf (zuf (zuf F 47 2 w0) 47 3 w1) 47 4 w2) 47 4 w3) 47 2 w4) 47 3 w5) 47 4 w6) 47 2 w7) 47 3 w8) 16 6 w9) 16 7 w10) = (zuf (zuf (zuf (zuf (zuf F 16 6 w9) 16 7 w10) 47 2 w7) 47 3 w8) 47 4 w6) := zufk_ix F [((47, 2), w0), ((47, 3), w1), ((47, 4), w2), ((47, 4), w3), ((47, 2), w4), ((47, 3), w5), ((47, 4), w6), ((47, 2), w7), ((47, 3), w8), ((16, 6), w9), ((16, 7), w10)] [((16, 6), some 9), ((16, 7), some 10), ((47, 2), some 7), ((47, 3), some 8), ((47, 4), some 6)] rfl
theorem hA6_od_readThing (F : Nat → Nat → Int32) (w0 : Nat → Int32) : (zua F 20 w0) = (zua (zua (zua F 20 w0) 21 (F 21)) 22 (F 22)) := zuak_ix F [(20, w0)] [(20, some 0), (21, none), (22, none)] rfl
theorem hF5_od_readThing (F : Nat → Nat → Int32) (w0 w1 w2 w3 w4 : Int32) : (zuf (zuf (zuf (zuf (zuf F 47 2 w0) 47 3 w1) 47 4 w2) 47 2 w3) 47 3 w4) = (zuf (zuf (zuf (zuf (zuf F 16 6 (F 16 6)) 16 7 (F 16 7)) 47 2 w3) 47 3 w4) 47 4 w2) := zufk_ix F [((47, 2), w0), ((47, 3), w1), ((47, 4), w2), ((47, 2), w3), ((47, 3), w4)] [((16, 6), none), ((16, 7), none), ((47, 2), some 3), ((47, 3), some 4), ((47, 4), some 2)] rfl
theorem hA4_od_readThing (F : Nat → Nat → Int32) (w0 : Nat → Int32) : (zua F 21 w0) = (zua (zua (zua F 20 (F 20)) 21 w0) 22 (F 22)) := zuak_ix F [(21, w0)] [(20, none), (21, some 0), (22, none)] rfl
theorem hF3_od_readThing (F : Nat → Nat → Int32) (w0 w1 w2 w3 w4 w5 w6 w7 w8 : Int32) : (zuf (zuf (zuf (zuf (zuf (zuf (zuf (zuf (zuf F 47 2 w0) 47 3 w1) 47 4 w2) 47 4 w3) 47 2 w4) 47 3 w5) 47 4 w6) 47 2 w7) 47 3 w8) = (zuf (zuf (zuf (zuf (zuf F 16 6 (F 16 6)) 16 7 (F 16 7)) 47 2 w7) 47 3 w8) 47 4 w6) := zufk_ix F [((47, 2), w0), ((47, 3), w1), ((47, 4), w2), ((47, 4), w3), ((47, 2), w4), ((47, 3), w5), ((47, 4), w6), ((47, 2), w7), ((47, 3), w8)] [((16, 6), none), ((16, 7), none), ((47, 2), some 7), ((47, 3), some 8), ((47, 4), some 6)] rfl
theorem hA2_od_readThing (F : Nat → Nat → Int32) (w0 : Nat → Int32) : (zua F 22 w0) = (zua (zua (zua F 20 (F 20)) 21 (F 21)) 22 w0) := zuak_ix F [(22, w0)] [(20, none), (21, none), (22, some 0)] rfl
theorem hF1_od_readThing (F : Nat → Nat → Int32) (w0 w1 w2 : Int32) : (zuf (zuf (zuf F 47 2 w0) 47 3 w1) 47 4 w2) = (zuf (zuf (zuf (zuf (zuf F 16 6 (F 16 6)) 16 7 (F 16 7)) 47 2 w0) 47 3 w1) 47 4 w2) := zufk_ix F [((47, 2), w0), ((47, 3), w1), ((47, 4), w2)] [((16, 6), none), ((16, 7), none), ((47, 2), some 0), ((47, 3), some 1), ((47, 4), some 2)] rfl
theorem hA0_od_readThing (F : Nat → Nat → Int32) : F = (zua (zua (zua F 20 (F 20)) 21 (F 21)) 22 (F 22)) := zuak_ix F [] [(20, none), (21, none), (22, none)] rfl
def O_od_readThing (ar fi : Nat → Nat → Int32) (m1 : Nat) (m2 : Nat) (m3 : Nat) (m4 : Nat) (t : T_od_readThing) : zO2 := match t with
  | (t0, t1, t2, t3, t4, t5, t6, t7) => (none, ((zua (zua (zua ar 20 t0) 21 t1) 22 t2), (zuf (zuf (zuf (zuf (zuf fi 16 6 t3) 16 7 t4) 47 2 t5) 47 3 t6) 47 4 t7), (m1, m2, m3, m4, 1)))
set_option maxRecDepth 1000000 in
theorem t_od_readThing {X : Nat × (Nat → Int32)} {ar fi : Nat → Nat → Int32} {m1 m2 m3 m4 : Nat} {Q_od_readBounded : Int32 → (Nat → Int32) → Int32 → Int32 → Int32 → Int32 → Option (Int32 × Int32 × Int32 × Int32)} {G_tx_sign : Int32 → Int32 → Int32 → (Nat → Int32) → Bool} {W_tx_sign : Int32 → Int32 → Int32 → (Nat → Int32) → Int32} {W_tx_isGood : Int32 → Int32} {W_if_isWithin : Int32 → Int32 → Int32 → Int32} {F0_tx_skip : Int32 → Int32} {Q_od_readPlace : (Nat → Int32) → Int32 → Int32 → Int32 → Int32 → Option (Int32 × Int32 × Int32 × Int32)} {G_od_endLine : Int32 → Int32 → Int32 → (Nat → Int32) → Int32 → Bool} {F0_od_endLine : Int32 → Int32 → Int32 → (Nat → Int32) → Int32 → Int32} {F1_od_endLine : Int32 → Int32 → Int32 → (Nat → Int32) → Int32 → Int32} {Q_od_tellThing : Int32 → Int32 → (Nat → Int32) → Int32 → Int32 → Int32 → Option ((Nat → Int32) × Int32 × Int32)} {F0_tx_fail : Int32 → Int32 → Int32 → Int32 → Int32} {F1_tx_fail : Int32 → Int32 → Int32 → Int32 → Int32} {W_sc_isTold : Int32 → Int32 → Int32} {Q_tx_number : Int32 → (Nat → Int32) → Int32 → Int32 → Int32 → Int32 → Option (Int32 × Int32 × Int32 × Int32)} : zseg X zFT (zEx 64 (P_od_readBounded Q_od_readBounded) (zEx 93 (P_tx_sign G_tx_sign W_tx_sign) (zEx 91 (P_tx_isGood W_tx_isGood) (zEx 137 (P_if_isWithin W_if_isWithin) (zEx 95 (P_tx_skip F0_tx_skip) (zEx 63 (P_od_readPlace Q_od_readPlace) (zEx 65 (P_od_endLine G_od_endLine F0_od_endLine F1_od_endLine) (zEx 62 (P_od_tellThing Q_od_tellThing) (zEx 97 (P_tx_fail F0_tx_fail F1_tx_fail) (zEx 78 (P_sc_isTold W_sc_isTold) (zEx 98 (P_tx_number Q_tx_number) zE0))))))))))) zc_61 (fun p => false) 400 0 [.ref 46, .ref 16] [] (ar, fi, (m1, m2, m3, m4, 1)) = (
  zl (Q_od_readBounded 23 (ar 1) (fi 47 1) (fi 47 2) (fi 47 3) (fi 47 4)) (fun v1 => zg v1.isSome (
  zg (G_tx_sign (((zgt v1).2.1)) (((zgt v1).2.2.2)) (fi 47 1) (ar 1)) (
  zl (W_tx_sign (((zgt v1).2.1)) (((zgt v1).2.2.2)) (fi 47 1) (ar 1)) (fun v2 =>
  zl (W_tx_isGood (((zgt v1).2.1))) (fun v3 =>
  bif decide (v3 = 0) then
   some (.inr (none, (ar, (zuf (zuf (zuf fi 47 2 (((zgt v1).2.1))) 47 3 (((zgt v1).2.2.1))) 47 4 (((zgt v1).2.2.2))), (m1, m2, m3, m4, 1))))
  else
   zl (W_if_isWithin (((zgt v1).1)) 0 23) (fun v4 =>
   bif !decide (v4 = 0) then
    bif !decide (v2 = 64) then
     bif decide (v2 = 61) then
      zl (W_sc_isTold (((zgt v1).1)) (fi 16 6)) (fun v5 =>
      bif !decide (v5 = 0) then
       zl (F0_tx_skip (((zgt v1).2.2.2))) (fun v6 =>
       zl (Q_tx_number 4 (ar 1) (fi 47 1) (((zgt v1).2.1)) (((zgt v1).2.2.1)) v6) (fun v7 => zg v7.isSome (
       zg (G_od_endLine (((zgt v7).2.2.2)) (fi 47 1) (((zgt v7).2.1)) (ar 1) (((zgt v7).2.2.1))) (
       zl (F0_od_endLine (((zgt v7).2.2.2)) (fi 47 1) (((zgt v7).2.1)) (ar 1) (((zgt v7).2.2.1))) (fun v8 =>
       zl (F1_od_endLine (((zgt v7).2.2.2)) (fi 47 1) (((zgt v7).2.1)) (ar 1) (((zgt v7).2.2.1))) (fun v9 =>
       bif !decide (v2 = 61) then
        zg (Nat.beq 16 16 && (zin (((zgt v1).1)) 24)) (
        some (.inr (none, ((zua ar 22 (zup (ar 22) ((((zgt v1).1)).toNatClampNeg) (((zgt v7).1)))), (zuf (zuf (zuf (zuf (zuf (zuf (zuf (zuf (zuf fi 47 2 (((zgt v1).2.1))) 47 3 (((zgt v1).2.2.1))) 47 4 (((zgt v1).2.2.2))) 47 4 v6) 47 2 (((zgt v7).2.1))) 47 3 (((zgt v7).2.2.1))) 47 4 (((zgt v7).2.2.2))) 47 2 v8) 47 3 v9), (m1, m2, m3, m4, 1)))))
       else
        zg (Nat.beq 16 16 && (zin (((zgt v1).1)) 24)) (
        some (.inr (none, ((zua ar 21 (zup (ar 21) ((((zgt v1).1)).toNatClampNeg) (((zgt v7).1)))), (zuf (zuf (zuf (zuf (zuf (zuf (zuf (zuf (zuf fi 47 2 (((zgt v1).2.1))) 47 3 (((zgt v1).2.2.1))) 47 4 (((zgt v1).2.2.2))) 47 4 v6) 47 2 (((zgt v7).2.1))) 47 3 (((zgt v7).2.2.1))) 47 4 (((zgt v7).2.2.2))) 47 2 v8) 47 3 v9), (m1, m2, m3, m4, 1)))))))))))
      else
       zl (F0_tx_fail 7 (fi 47 4) (((zgt v1).2.1)) (((zgt v1).2.2.1))) (fun v10 =>
       zl (F1_tx_fail 7 (fi 47 4) (((zgt v1).2.1)) (((zgt v1).2.2.1))) (fun v11 =>
       some (.inr (none, (ar, (zuf (zuf (zuf (zuf (zuf fi 47 2 (((zgt v1).2.1))) 47 3 (((zgt v1).2.2.1))) 47 4 (((zgt v1).2.2.2))) 47 2 v10) 47 3 v11), (m1, m2, m3, m4, 1)))))))
     else
      bif decide (v2 = 43) then
       zl (W_sc_isTold (((zgt v1).1)) (fi 16 6)) (fun v12 =>
       bif !decide (v12 = 0) then
        zl (F0_tx_skip (((zgt v1).2.2.2))) (fun v13 =>
        zl (Q_tx_number 4 (ar 1) (fi 47 1) (((zgt v1).2.1)) (((zgt v1).2.2.1)) v13) (fun v14 => zg v14.isSome (
        zg (G_od_endLine (((zgt v14).2.2.2)) (fi 47 1) (((zgt v14).2.1)) (ar 1) (((zgt v14).2.2.1))) (
        zl (F0_od_endLine (((zgt v14).2.2.2)) (fi 47 1) (((zgt v14).2.1)) (ar 1) (((zgt v14).2.2.1))) (fun v15 =>
        zl (F1_od_endLine (((zgt v14).2.2.2)) (fi 47 1) (((zgt v14).2.1)) (ar 1) (((zgt v14).2.2.1))) (fun v16 =>
        bif !decide (v2 = 61) then
         zg (Nat.beq 16 16 && (zin (((zgt v1).1)) 24)) (
         some (.inr (none, ((zua ar 22 (zup (ar 22) ((((zgt v1).1)).toNatClampNeg) (((zgt v14).1)))), (zuf (zuf (zuf (zuf (zuf (zuf (zuf (zuf (zuf fi 47 2 (((zgt v1).2.1))) 47 3 (((zgt v1).2.2.1))) 47 4 (((zgt v1).2.2.2))) 47 4 v13) 47 2 (((zgt v14).2.1))) 47 3 (((zgt v14).2.2.1))) 47 4 (((zgt v14).2.2.2))) 47 2 v15) 47 3 v16), (m1, m2, m3, m4, 1)))))
        else
         zg (Nat.beq 16 16 && (zin (((zgt v1).1)) 24)) (
         some (.inr (none, ((zua ar 21 (zup (ar 21) ((((zgt v1).1)).toNatClampNeg) (((zgt v14).1)))), (zuf (zuf (zuf (zuf (zuf (zuf (zuf (zuf (zuf fi 47 2 (((zgt v1).2.1))) 47 3 (((zgt v1).2.2.1))) 47 4 (((zgt v1).2.2.2))) 47 4 v13) 47 2 (((zgt v14).2.1))) 47 3 (((zgt v14).2.2.1))) 47 4 (((zgt v14).2.2.2))) 47 2 v15) 47 3 v16), (m1, m2, m3, m4, 1)))))))))))
       else
        zl (F0_tx_fail 7 (fi 47 4) (((zgt v1).2.1)) (((zgt v1).2.2.1))) (fun v17 =>
        zl (F1_tx_fail 7 (fi 47 4) (((zgt v1).2.1)) (((zgt v1).2.2.1))) (fun v18 =>
        some (.inr (none, (ar, (zuf (zuf (zuf (zuf (zuf fi 47 2 (((zgt v1).2.1))) 47 3 (((zgt v1).2.2.1))) 47 4 (((zgt v1).2.2.2))) 47 2 v17) 47 3 v18), (m1, m2, m3, m4, 1)))))))
      else
       zl (F0_tx_fail 1 (((zgt v1).2.2.2)) (((zgt v1).2.1)) (((zgt v1).2.2.1))) (fun v19 =>
       zl (F1_tx_fail 1 (((zgt v1).2.2.2)) (((zgt v1).2.1)) (((zgt v1).2.2.1))) (fun v20 =>
       some (.inr (none, (ar, (zuf (zuf (zuf (zuf (zuf fi 47 2 (((zgt v1).2.1))) 47 3 (((zgt v1).2.2.1))) 47 4 (((zgt v1).2.2.2))) 47 2 v19) 47 3 v20), (m1, m2, m3, m4, 1))))))
    else
     zl (F0_tx_skip (((zgt v1).2.2.2))) (fun v21 =>
     zl (Q_od_readPlace (ar 1) (fi 47 1) (((zgt v1).2.1)) (((zgt v1).2.2.1)) v21) (fun v22 => zg v22.isSome (
     zg (G_od_endLine (((zgt v22).2.2.2)) (fi 47 1) (((zgt v22).2.1)) (ar 1) (((zgt v22).2.2.1))) (
     zl (F0_od_endLine (((zgt v22).2.2.2)) (fi 47 1) (((zgt v22).2.1)) (ar 1) (((zgt v22).2.2.1))) (fun v23 =>
     zl (F1_od_endLine (((zgt v22).2.2.2)) (fi 47 1) (((zgt v22).2.1)) (ar 1) (((zgt v22).2.2.1))) (fun v24 =>
     zl (Q_od_tellThing (((zgt v1).1)) (((zgt v22).1)) (ar 20) (fi 16 6) (fi 16 7) v23) (fun v25 => zg v25.isSome (
     some (.inr (none, ((zua ar 20 (((zgt v25).1))), (zuf (zuf (zuf (zuf (zuf (zuf (zuf (zuf (zuf (zuf (zuf fi 47 2 (((zgt v1).2.1))) 47 3 (((zgt v1).2.2.1))) 47 4 (((zgt v1).2.2.2))) 47 4 v21) 47 2 (((zgt v22).2.1))) 47 3 (((zgt v22).2.2.1))) 47 4 (((zgt v22).2.2.2))) 47 2 v23) 47 3 v24) 16 6 (((zgt v25).2.1))) 16 7 (((zgt v25).2.2))), (m1, m2, m3, m4, 1))))))))))))
   else
    some (.inr (none, (ar, (zuf (zuf (zuf fi 47 2 (((zgt v1).2.1))) 47 3 (((zgt v1).2.2.1))) 47 4 (((zgt v1).2.2.2))), (m1, m2, m3, m4, 1)))))))))) : Option ((Nat × List Value × List Value × zH2) ⊕ zO2)) := by with_unfolding_all rfl
set_option maxRecDepth 20000 in
theorem e_od_readThing {X : Nat × (Nat → Int32)} {ar fi : Nat → Nat → Int32} {m1 m2 m3 m4 : Nat} {o : zO2} : ∀ (q : T_od_readThing), q_od_readThing (ar 1) (ar 20) (ar 21) (ar 22) (fi 16 6) (fi 16 7) (fi 47 1) (fi 47 2) (fi 47 3) (fi 47 4) = some q → (fun t => O_od_readThing ar fi m1 m2 m3 m4 t = o) q → zR2 X zFT (zEx 64 S_od_readBounded (zEx 93 S_tx_sign (zEx 91 S_tx_isGood (zEx 137 S_if_isWithin (zEx 95 S_tx_skip (zEx 63 S_od_readPlace (zEx 65 S_od_endLine (zEx 62 S_od_tellThing (zEx 97 S_tx_fail (zEx 78 S_sc_isTold (zEx 98 S_tx_number zE0))))))))))) zc_61 0 [.ref 46, .ref 16] [] (ar, fi, (m1, m2, m3, m4, 1)) o := by
  intro q h hq
  unfold q_od_readThing at h
  refine zT_seg t_od_readThing ?_
  obtain ⟨TT, hTT⟩ : ∃ T, T = zT X zFT (zEx 64 S_od_readBounded (zEx 93 S_tx_sign (zEx 91 S_tx_isGood (zEx 137 S_if_isWithin (zEx 95 S_tx_skip (zEx 63 S_od_readPlace (zEx 65 S_od_endLine (zEx 62 S_od_tellThing (zEx 97 S_tx_fail (zEx 78 S_sc_isTold (zEx 98 S_tx_number zE0))))))))))) zc_61 o := ⟨_, rfl⟩
  rw [← hTT]
  refine zbd_el h (fun v1 hv h => zU_c hTT hv ?_)
  refine zg_el h (fun hg h => zU_g hTT hg ?_)
  refine zl_el h (fun h => zU_l hTT ?_)
  refine zl_el h (fun h => zU_l hTT ?_)
  refine zb_el h (fun hb h => zU_t hTT hb ?_) (fun hb h => zU_f hTT hb ?_)
  · rw [hTT]
    have hz := zsi (P := (fun t => O_od_readThing ar fi m1 m2 m3 m4 t = o)) h hq
    refine (zO_mk ?_ ?_).trans hz
    · first | with_reducible rfl | exact hA0_od_readThing _
    · first | with_reducible rfl | exact hF1_od_readThing _ _ _ _
  · refine zl_el h (fun h => zU_l hTT ?_)
    refine zb_el h (fun hb h => zU_t hTT hb ?_) (fun hb h => zU_f hTT hb ?_)
    · refine zb_el h (fun hb h => zU_t hTT hb ?_) (fun hb h => zU_f hTT hb ?_)
      · refine zb_el h (fun hb h => zU_t hTT hb ?_) (fun hb h => zU_f hTT hb ?_)
        · refine zl_el h (fun h => zU_l hTT ?_)
          refine zb_el h (fun hb h => zU_t hTT hb ?_) (fun hb h => zU_f hTT hb ?_)
          · refine zl_el h (fun h => zU_l hTT ?_)
            refine zbd_el h (fun v7 hv h => zU_c hTT hv ?_)
            refine zg_el h (fun hg h => zU_g hTT hg ?_)
            refine zl_el h (fun h => zU_l hTT ?_)
            refine zl_el h (fun h => zU_l hTT ?_)
            refine zb_el h (fun hb h => zU_t hTT hb ?_) (fun hb h => zU_f hTT hb ?_)
            · refine zg_el h (fun hg h => zU_ga hTT hg ?_)
              rw [hTT]
              have hz := zsi (P := (fun t => O_od_readThing ar fi m1 m2 m3 m4 t = o)) h hq
              refine (zO_mk ?_ ?_).trans hz
              · first | with_reducible rfl | exact hA2_od_readThing _ _
              · first | with_reducible rfl | exact hF3_od_readThing _ _ _ _ _ _ _ _ _ _
            · refine zg_el h (fun hg h => zU_ga hTT hg ?_)
              rw [hTT]
              have hz := zsi (P := (fun t => O_od_readThing ar fi m1 m2 m3 m4 t = o)) h hq
              refine (zO_mk ?_ ?_).trans hz
              · first | with_reducible rfl | exact hA4_od_readThing _ _
              · first | with_reducible rfl | exact hF3_od_readThing _ _ _ _ _ _ _ _ _ _
          · refine zl_el h (fun h => zU_l hTT ?_)
            refine zl_el h (fun h => zU_l hTT ?_)
            rw [hTT]
            have hz := zsi (P := (fun t => O_od_readThing ar fi m1 m2 m3 m4 t = o)) h hq
            refine (zO_mk ?_ ?_).trans hz
            · first | with_reducible rfl | exact hA0_od_readThing _
            · first | with_reducible rfl | exact hF5_od_readThing _ _ _ _ _ _
        · refine zb_el h (fun hb h => zU_t hTT hb ?_) (fun hb h => zU_f hTT hb ?_)
          · refine zl_el h (fun h => zU_l hTT ?_)
            refine zb_el h (fun hb h => zU_t hTT hb ?_) (fun hb h => zU_f hTT hb ?_)
            · refine zl_el h (fun h => zU_l hTT ?_)
              refine zbd_el h (fun v14 hv h => zU_c hTT hv ?_)
              refine zg_el h (fun hg h => zU_g hTT hg ?_)
              refine zl_el h (fun h => zU_l hTT ?_)
              refine zl_el h (fun h => zU_l hTT ?_)
              refine zb_el h (fun hb h => zU_t hTT hb ?_) (fun hb h => zU_f hTT hb ?_)
              · refine zg_el h (fun hg h => zU_ga hTT hg ?_)
                rw [hTT]
                have hz := zsi (P := (fun t => O_od_readThing ar fi m1 m2 m3 m4 t = o)) h hq
                refine (zO_mk ?_ ?_).trans hz
                · first | with_reducible rfl | exact hA2_od_readThing _ _
                · first | with_reducible rfl | exact hF3_od_readThing _ _ _ _ _ _ _ _ _ _
              · refine zg_el h (fun hg h => zU_ga hTT hg ?_)
                rw [hTT]
                have hz := zsi (P := (fun t => O_od_readThing ar fi m1 m2 m3 m4 t = o)) h hq
                refine (zO_mk ?_ ?_).trans hz
                · first | with_reducible rfl | exact hA4_od_readThing _ _
                · first | with_reducible rfl | exact hF3_od_readThing _ _ _ _ _ _ _ _ _ _
            · refine zl_el h (fun h => zU_l hTT ?_)
              refine zl_el h (fun h => zU_l hTT ?_)
              rw [hTT]
              have hz := zsi (P := (fun t => O_od_readThing ar fi m1 m2 m3 m4 t = o)) h hq
              refine (zO_mk ?_ ?_).trans hz
              · first | with_reducible rfl | exact hA0_od_readThing _
              · first | with_reducible rfl | exact hF5_od_readThing _ _ _ _ _ _
          · refine zl_el h (fun h => zU_l hTT ?_)
            refine zl_el h (fun h => zU_l hTT ?_)
            rw [hTT]
            have hz := zsi (P := (fun t => O_od_readThing ar fi m1 m2 m3 m4 t = o)) h hq
            refine (zO_mk ?_ ?_).trans hz
            · first | with_reducible rfl | exact hA0_od_readThing _
            · first | with_reducible rfl | exact hF5_od_readThing _ _ _ _ _ _
      · refine zl_el h (fun h => zU_l hTT ?_)
        refine zbd_el h (fun v22 hv h => zU_c hTT hv ?_)
        refine zg_el h (fun hg h => zU_g hTT hg ?_)
        refine zl_el h (fun h => zU_l hTT ?_)
        refine zl_el h (fun h => zU_l hTT ?_)
        refine zbd_el h (fun v25 hv h => zU_c hTT hv ?_)
        rw [hTT]
        have hz := zsi (P := (fun t => O_od_readThing ar fi m1 m2 m3 m4 t = o)) h hq
        refine (zO_mk ?_ ?_).trans hz
        · first | with_reducible rfl | exact hA6_od_readThing _ _
        · first | with_reducible rfl | exact hF7_od_readThing _ _ _ _ _ _ _ _ _ _ _ _
    · rw [hTT]
      have hz := zsi (P := (fun t => O_od_readThing ar fi m1 m2 m3 m4 t = o)) h hq
      refine (zO_mk ?_ ?_).trans hz
      · first | with_reducible rfl | exact hA0_od_readThing _
      · first | with_reducible rfl | exact hF1_od_readThing _ _ _ _
theorem ok_od_readThing (X : Nat × (Nat → Int32)) : zOkS X 61 S_od_readThing 5 := zOkS_new (zOkE_cons (ok_od_readBounded X) (by decide) (zOkE_cons (ok_tx_sign X) (by decide) (zOkE_cons (ok_tx_isGood X) (by decide) (zOkE_cons (ok_if_isWithin X) (by decide) (zOkE_cons (ok_tx_skip X) (by decide) (zOkE_cons (ok_od_readPlace X) (by decide) (zOkE_cons (ok_od_endLine X) (by decide) (zOkE_cons (ok_od_tellThing X) (by decide) (zOkE_cons (ok_tx_fail X) (by decide) (zOkE_cons (ok_sc_isTold X) (by decide) (zOkE_cons (ok_tx_number X) (by decide) (zOkE_nil X 4)))))))))))) (by
  intro args g o h
  obtain ⟨ar, fi, m1, m2, m3, m4, m5⟩ := g
  unfold S_od_readThing P_od_readThing at h
  split at h
  · refine zb_el h (fun hI0 k0 => ?_) (fun _ h10 => ?_)
    · try simp only [Bool.and_eq_true] at hI0
      obtain ⟨⟨j0, j1⟩, j2⟩ := hI0
      have e0 := Nat.eq_of_beq_eq_true j0
      subst e0
      have e1 := Nat.eq_of_beq_eq_true j1
      subst e1
      have e9 : m5 = 1 := Nat.eq_of_beq_eq_true j2
      subst e9
      exact zpe_el k0 (fun t ht ho => by obtain ⟨t0, t1, t2, t3, t4, t5, t6, t7⟩ := t; exact e_od_readThing _ ht ho)
    · cases h10
  · cases h)
