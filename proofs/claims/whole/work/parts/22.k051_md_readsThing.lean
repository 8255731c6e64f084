abbrev T_md_readsThing : Type := Int32 × (Nat → Int32) × Int32 × Int32 × Int32 × Int32 × Int32
noncomputable def q_md_readsThing (a65 : Nat → Int32) (a70 : Nat → Int32) (f64_7 : Int32) (f64_8 : Int32) (f64_9 : Int32) (f64_10 : Int32) (f64_31 : Int32) (f64_32 : Int32) : Option T_md_readsThing :=
  zbd (q_md_readsWithin 23 a70 (f64_7) (f64_8) (f64_9) (f64_10)) (fun v1 =>
  bif !decide ((v1.1) = 0) then
   zg (g_md_here (f64_8) ((v1.2.1)) a70) (
   zl (w_md_here (f64_8) ((v1.2.1)) a70) (fun v2 =>
   bif decide (v2 = 64) then
    bif decide (v2 = 64) then
     bif !decide (v2 = 64) then
      zbd (q_md_readsWithin 9999 a70 (((v1.2.1)) + 1) (f64_8) ((v1.2.2.1)) ((v1.2.2.2))) (fun v3 =>
      bif !decide ((v3.1) = 0) then
       bif !decide (v2 = 61) then
        zg (zin (264 + ((v1.2.2.2))) 315) (
        some (1, (zup a65 ((264 + ((v1.2.2.2))).toNatClampNeg) ((v3.2.2.2))), (v3.2.1), (v3.2.2.1), (v3.2.2.2), f64_31, f64_32))
       else
        zg (zin (240 + ((v1.2.2.2))) 315) (
        some (1, (zup a65 ((240 + ((v1.2.2.2))).toNatClampNeg) ((v3.2.2.2))), (v3.2.1), (v3.2.2.1), (v3.2.2.2), f64_31, f64_32))
      else
       some (0, a65, (v3.2.1), (v3.2.2.1), (v3.2.2.2), f64_31, f64_32))
     else
      zbd (q_md_readsSpot a70 (((v1.2.1)) + 1) (f64_8) ((v1.2.2.1)) ((v1.2.2.2)) (f64_31)) (fun v4 =>
      bif !decide ((v4.1) = 0) then
       zg (zin (192 + ((v1.2.2.2))) 315) (
       zg (zin (216 + ((v1.2.2.2))) 315) (
       zg (zin (288 + ((v1.2.2.2))) 315) (
       some (1, (zup (zup (zup a65 ((192 + ((v1.2.2.2))).toNatClampNeg) 1) ((216 + ((v1.2.2.2))).toNatClampNeg) ((v4.2.2.2.2.1))) ((288 + ((v1.2.2.2))).toNatClampNeg) 0), (v4.2.1), (v4.2.2.1), (v4.2.2.2.1), (v4.2.2.2.2.1), (v4.2.2.2.2.2)))))
      else
       some (0, a65, (v4.2.1), (v4.2.2.1), (v4.2.2.2.1), (v4.2.2.2.2.1), (v4.2.2.2.2.2)))
    else
     zg (g_md_isThing ((v1.2.2.2)) a65) (
     zl (w_md_isThing ((v1.2.2.2)) a65) (fun v5 =>
     bif !decide (v5 = 0) then
      bif !decide (v2 = 64) then
       zbd (q_md_readsWithin 9999 a70 (((v1.2.1)) + 1) (f64_8) ((v1.2.2.1)) ((v1.2.2.2))) (fun v6 =>
       bif !decide ((v6.1) = 0) then
        bif !decide (v2 = 61) then
         zg (zin (264 + ((v1.2.2.2))) 315) (
         some (1, (zup a65 ((264 + ((v1.2.2.2))).toNatClampNeg) ((v6.2.2.2))), (v6.2.1), (v6.2.2.1), (v6.2.2.2), f64_31, f64_32))
        else
         zg (zin (240 + ((v1.2.2.2))) 315) (
         some (1, (zup a65 ((240 + ((v1.2.2.2))).toNatClampNeg) ((v6.2.2.2))), (v6.2.1), (v6.2.2.1), (v6.2.2.2), f64_31, f64_32))
       else
        some (0, a65, (v6.2.1), (v6.2.2.1), (v6.2.2.2), f64_31, f64_32))
      else
       zbd (q_md_readsSpot a70 (((v1.2.1)) + 1) (f64_8) ((v1.2.2.1)) ((v1.2.2.2)) (f64_31)) (fun v7 =>
       bif !decide ((v7.1) = 0) then
        zg (zin (192 + ((v1.2.2.2))) 315) (
        zg (zin (216 + ((v1.2.2.2))) 315) (
        zg (zin (288 + ((v1.2.2.2))) 315) (
        some (1, (zup (zup (zup a65 ((192 + ((v1.2.2.2))).toNatClampNeg) 1) ((216 + ((v1.2.2.2))).toNatClampNeg) ((v7.2.2.2.2.1))) ((288 + ((v1.2.2.2))).toNatClampNeg) 0), (v7.2.1), (v7.2.2.1), (v7.2.2.2.1), (v7.2.2.2.2.1), (v7.2.2.2.2.2)))))
       else
        some (0, a65, (v7.2.1), (v7.2.2.1), (v7.2.2.2.1), (v7.2.2.2.2.1), (v7.2.2.2.2.2)))
     else
      zl (w_md_wrongAt 7 (f64_7)) (fun v8 =>
      zl (f0_md_wrongAt 7 (f64_7)) (fun v9 =>
      zg (decide (v8 = 0) || decide (v8 = 1)) (
      some (v8, a65, (v1.2.1), v9, (v1.2.2.2), f64_31, f64_32))))))
   else
    bif decide (v2 = 61) then
     bif decide (v2 = 64) then
      bif !decide (v2 = 64) then
       zbd (q_md_readsWithin 9999 a70 (((v1.2.1)) + 1) (f64_8) ((v1.2.2.1)) ((v1.2.2.2))) (fun v10 =>
       bif !decide ((v10.1) = 0) then
        bif !decide (v2 = 61) then
         zg (zin (264 + ((v1.2.2.2))) 315) (
         some (1, (zup a65 ((264 + ((v1.2.2.2))).toNatClampNeg) ((v10.2.2.2))), (v10.2.1), (v10.2.2.1), (v10.2.2.2), f64_31, f64_32))
        else
         zg (zin (240 + ((v1.2.2.2))) 315) (
         some (1, (zup a65 ((240 + ((v1.2.2.2))).toNatClampNeg) ((v10.2.2.2))), (v10.2.1), (v10.2.2.1), (v10.2.2.2), f64_31, f64_32))
       else
        some (0, a65, (v10.2.1), (v10.2.2.1), (v10.2.2.2), f64_31, f64_32))
      else
       zbd (q_md_readsSpot a70 (((v1.2.1)) + 1) (f64_8) ((v1.2.2.1)) ((v1.2.2.2)) (f64_31)) (fun v11 =>
       bif !decide ((v11.1) = 0) then
        zg (zin (192 + ((v1.2.2.2))) 315) (
        zg (zin (216 + ((v1.2.2.2))) 315) (
        zg (zin (288 + ((v1.2.2.2))) 315) (
        some (1, (zup (zup (zup a65 ((192 + ((v1.2.2.2))).toNatClampNeg) 1) ((216 + ((v1.2.2.2))).toNatClampNeg) ((v11.2.2.2.2.1))) ((288 + ((v1.2.2.2))).toNatClampNeg) 0), (v11.2.1), (v11.2.2.1), (v11.2.2.2.1), (v11.2.2.2.2.1), (v11.2.2.2.2.2)))))
       else
        some (0, a65, (v11.2.1), (v11.2.2.1), (v11.2.2.2.1), (v11.2.2.2.2.1), (v11.2.2.2.2.2)))
     else
      zg (g_md_isThing ((v1.2.2.2)) a65) (
      zl (w_md_isThing ((v1.2.2.2)) a65) (fun v12 =>
      bif !decide (v12 = 0) then
       bif !decide (v2 = 64) then
        zbd (q_md_readsWithin 9999 a70 (((v1.2.1)) + 1) (f64_8) ((v1.2.2.1)) ((v1.2.2.2))) (fun v13 =>
        bif !decide ((v13.1) = 0) then
         bif !decide (v2 = 61) then
          zg (zin (264 + ((v1.2.2.2))) 315) (
          some (1, (zup a65 ((264 + ((v1.2.2.2))).toNatClampNeg) ((v13.2.2.2))), (v13.2.1), (v13.2.2.1), (v13.2.2.2), f64_31, f64_32))
         else
          zg (zin (240 + ((v1.2.2.2))) 315) (
          some (1, (zup a65 ((240 + ((v1.2.2.2))).toNatClampNeg) ((v13.2.2.2))), (v13.2.1), (v13.2.2.1), (v13.2.2.2), f64_31, f64_32))
        else
         some (0, a65, (v13.2.1), (v13.2.2.1), (v13.2.2.2), f64_31, f64_32))
       else
        zbd (q_md_readsSpot a70 (((v1.2.1)) + 1) (f64_8) ((v1.2.2.1)) ((v1.2.2.2)) (f64_31)) (fun v14 =>
        bif !decide ((v14.1) = 0) then
         zg (zin (192 + ((v1.2.2.2))) 315) (
         zg (zin (216 + ((v1.2.2.2))) 315) (
         zg (zin (288 + ((v1.2.2.2))) 315) (
         some (1, (zup (zup (zup a65 ((192 + ((v1.2.2.2))).toNatClampNeg) 1) ((216 + ((v1.2.2.2))).toNatClampNeg) ((v14.2.2.2.2.1))) ((288 + ((v1.2.2.2))).toNatClampNeg) 0), (v14.2.1), (v14.2.2.1), (v14.2.2.2.1), (v14.2.2.2.2.1), (v14.2.2.2.2.2)))))
        else
         some (0, a65, (v14.2.1), (v14.2.2.1), (v14.2.2.2.1), (v14.2.2.2.2.1), (v14.2.2.2.2.2)))
      else
       zl (w_md_wrongAt 7 (f64_7)) (fun v15 =>
       zl (f0_md_wrongAt 7 (f64_7)) (fun v16 =>
       zg (decide (v15 = 0) || decide (v15 = 1)) (
       some (v15, a65, (v1.2.1), v16, (v1.2.2.2), f64_31, f64_32))))))
    else
     bif decide (v2 = 43) then
      bif decide (v2 = 64) then
       bif !decide (v2 = 64) then
        zbd (q_md_readsWithin 9999 a70 (((v1.2.1)) + 1) (f64_8) ((v1.2.2.1)) ((v1.2.2.2))) (fun v17 =>
        bif !decide ((v17.1) = 0) then
         bif !decide (v2 = 61) then
          zg (zin (264 + ((v1.2.2.2))) 315) (
          some (1, (zup a65 ((264 + ((v1.2.2.2))).toNatClampNeg) ((v17.2.2.2))), (v17.2.1), (v17.2.2.1), (v17.2.2.2), f64_31, f64_32))
         else
          zg (zin (240 + ((v1.2.2.2))) 315) (
          some (1, (zup a65 ((240 + ((v1.2.2.2))).toNatClampNeg) ((v17.2.2.2))), (v17.2.1), (v17.2.2.1), (v17.2.2.2), f64_31, f64_32))
        else
         some (0, a65, (v17.2.1), (v17.2.2.1), (v17.2.2.2), f64_31, f64_32))
       else
        zbd (q_md_readsSpot a70 (((v1.2.1)) + 1) (f64_8) ((v1.2.2.1)) ((v1.2.2.2)) (f64_31)) (fun v18 =>
        bif !decide ((v18.1) = 0) then
         zg (zin (192 + ((v1.2.2.2))) 315) (
         zg (zin (216 + ((v1.2.2.2))) 315) (
         zg (zin (288 + ((v1.2.2.2))) 315) (
         some (1, (zup (zup (zup a65 ((192 + ((v1.2.2.2))).toNatClampNeg) 1) ((216 + ((v1.2.2.2))).toNatClampNeg) ((v18.2.2.2.2.1))) ((288 + ((v1.2.2.2))).toNatClampNeg) 0), (v18.2.1), (v18.2.2.1), (v18.2.2.2.1), (v18.2.2.2.2.1), (v18.2.2.2.2.2)))))
        else
         some (0, a65, (v18.2.1), (v18.2.2.1), (v18.2.2.2.1), (v18.2.2.2.2.1), (v18.2.2.2.2.2)))
      else
       zg (g_md_isThing ((v1.2.2.2)) a65) (
       zl (w_md_isThing ((v1.2.2.2)) a65) (fun v19 =>
       bif !decide (v19 = 0) then
        bif !decide (v2 = 64) then
         zbd (q_md_readsWithin 9999 a70 (((v1.2.1)) + 1) (f64_8) ((v1.2.2.1)) ((v1.2.2.2))) (fun v20 =>
         bif !decide ((v20.1) = 0) then
          bif !decide (v2 = 61) then
           zg (zin (264 + ((v1.2.2.2))) 315) (
           some (1, (zup a65 ((264 + ((v1.2.2.2))).toNatClampNeg) ((v20.2.2.2))), (v20.2.1), (v20.2.2.1), (v20.2.2.2), f64_31, f64_32))
          else
           zg (zin (240 + ((v1.2.2.2))) 315) (
           some (1, (zup a65 ((240 + ((v1.2.2.2))).toNatClampNeg) ((v20.2.2.2))), (v20.2.1), (v20.2.2.1), (v20.2.2.2), f64_31, f64_32))
         else
          some (0, a65, (v20.2.1), (v20.2.2.1), (v20.2.2.2), f64_31, f64_32))
        else
         zbd (q_md_readsSpot a70 (((v1.2.1)) + 1) (f64_8) ((v1.2.2.1)) ((v1.2.2.2)) (f64_31)) (fun v21 =>
         bif !decide ((v21.1) = 0) then
          zg (zin (192 + ((v1.2.2.2))) 315) (
          zg (zin (216 + ((v1.2.2.2))) 315) (
          zg (zin (288 + ((v1.2.2.2))) 315) (
          some (1, (zup (zup (zup a65 ((192 + ((v1.2.2.2))).toNatClampNeg) 1) ((216 + ((v1.2.2.2))).toNatClampNeg) ((v21.2.2.2.2.1))) ((288 + ((v1.2.2.2))).toNatClampNeg) 0), (v21.2.1), (v21.2.2.1), (v21.2.2.2.1), (v21.2.2.2.2.1), (v21.2.2.2.2.2)))))
         else
          some (0, a65, (v21.2.1), (v21.2.2.1), (v21.2.2.2.1), (v21.2.2.2.2.1), (v21.2.2.2.2.2)))
       else
        zl (w_md_wrongAt 7 (f64_7)) (fun v22 =>
        zl (f0_md_wrongAt 7 (f64_7)) (fun v23 =>
        zg (decide (v22 = 0) || decide (v22 = 1)) (
        some (v22, a65, (v1.2.1), v23, (v1.2.2.2), f64_31, f64_32))))))
     else
      zl (w_md_wrongAt 1 ((v1.2.1))) (fun v24 =>
      zl (f0_md_wrongAt 1 ((v1.2.1))) (fun v25 =>
      zg (decide (v24 = 0) || decide (v24 = 1)) (
      some (v24, a65, (v1.2.1), v25, (v1.2.2.2), f64_31, f64_32))))))
  else
   some (0, a65, (v1.2.1), (v1.2.2.1), (v1.2.2.2), f64_31, f64_32))
def P_md_readsThing (Q : (Nat → Int32) → (Nat → Int32) → Int32 → Int32 → Int32 → Int32 → Int32 → Int32 → Option (Int32 × (Nat → Int32) × Int32 × Int32 × Int32 × Int32 × Int32)) : zSp := fun as g => match as with
  | [.ref a] => bif Nat.beq a 64 then zpe (Q (g.1 65) (g.1 70) (g.2.1 64 7) (g.2.1 64 8) (g.2.1 64 9) (g.2.1 64 10) (g.2.1 64 31) (g.2.1 64 32)) (fun t => (some (.int (t.1)), ((zua g.1 65 t.2.1), (zuf (zuf (zuf (zuf (zuf g.2.1 64 7 t.2.2.1) 64 9 t.2.2.2.1) 64 10 t.2.2.2.2.1) 64 31 t.2.2.2.2.2.1) 64 32 t.2.2.2.2.2.2), g.2.2))) else none
  | _ => none
noncomputable abbrev S_md_readsThing : zSp := P_md_readsThing q_md_readsThing
theorem hF6_md_readsThing (F : Nat → Nat → Int32) (w0 w1 w2 : Int32) : (zuf (zuf (zuf F 64 7 w0) 64 9 w1) 64 10 w2) = (zuf (zuf (zuf (zuf (zuf F 64 7 w0) 64 9 w1) 64 10 w2) 64 31 (F 64 31)) 64 32 (F 64 32)) := zufk_ix F [((64, 7), w0), ((64, 9), w1), ((64, 10), w2)] [((64, 7), some 0), ((64, 9), some 1), ((64, 10), some 2), ((64, 31), none), ((64, 32), none)] rfl
theorem hF5_md_readsThing (F : Nat → Nat → Int32) (w0 w1 w2 w3 : Int32) : (zuf (zuf (zuf (zuf F 64 7 w0) 64 9 w1) 64 10 w2) 64 9 w3) = (zuf (zuf (zuf (zuf (zuf F 64 7 w0) 64 9 w3) 64 10 w2) 64 31 (F 64 31)) 64 32 (F 64 32)) := zufk_ix F [((64, 7), w0), ((64, 9), w1), ((64, 10), w2), ((64, 9), w3)] [((64, 7), some 0), ((64, 9), some 3), ((64, 10), some 2), ((64, 31), none), ((64, 32), none)] rfl
theorem hF4_md_readsThing (F : Nat → Nat → Int32) (w0 w1 w2 w3 w4 w5 w6 w7 w8 : Int32) : (zuf (zuf (zuf (zuf (zuf (zuf (zuf (zuf (zuf F 64 7 w0) 64 9 w1) 64 10 w2) 64 7 w3) 64 7 w4) 64 9 w5) 64 10 w6) 64 31 w7) 64 32 w8) = (zuf (zuf (zuf (zuf (zuf F 64 7 w4) 64 9 w5) 64 10 w6) 64 31 w7) 64 32 w8) := zufk_ix F [((64, 7), w0), ((64, 9), w1), ((64, 10), w2), ((64, 7), w3), ((64, 7), w4), ((64, 9), w5), ((64, 10), w6), ((64, 31), w7), ((64, 32), w8)] [((64, 7), some 4), ((64, 9), some 5), ((64, 10), some 6), ((64, 31), some 7), ((64, 32), some 8)] rfl
theorem hA3_md_readsThing (F : Nat → Nat → Int32) (w0 w1 w2 : Nat → Int32) : (zua (zua (zua F 65 w0) 65 w1) 65 w2) = (zua F 65 w2) := zuak_ix F [(65, w0), (65, w1), (65, w2)] [(65, some 2)] rfl
theorem hA2_md_readsThing (F : Nat → Nat → Int32) : F = (zua F 65 (F 65)) := zuak_ix F [] [(65, none)] rfl
theorem hF1_md_readsThing (F : Nat → Nat → Int32) (w0 w1 w2 w3 w4 w5 w6 : Int32) : (zuf (zuf (zuf (zuf (zuf (zuf (zuf F 64 7 w0) 64 9 w1) 64 10 w2) 64 7 w3) 64 7 w4) 64 9 w5) 64 10 w6) = (zuf (zuf (zuf (zuf (zuf F 64 7 w4) 64 9 w5) 64 10 w6) 64 31 (F 64 31)) 64 32 (F 64 32)) := zufk_ix F [((64, 7), w0), ((64, 9), w1), ((64, 10), w2), ((64, 7), w3), ((64, 7), w4), ((64, 9), w5), ((64, 10), w6)] [((64, 7), some 4), ((64, 9), some 5), ((64, 10), some 6), ((64, 31), none), ((64, 32), none)] rfl
theorem hA0_md_readsThing (F : Nat → Nat → Int32) (w0 : Nat → Int32) : (zua F 65 w0) = (zua F 65 w0) := zuak_ix F [(65, w0)] [(65, some 0)] rfl
def O_md_readsThing (ar fi : Nat → Nat → Int32) (m1 : Nat) (m2 : Nat) (m3 : Nat) (m4 : Nat) (m5 : Nat) (t : T_md_readsThing) : zO2 := match t with
  | (t0, t1, t2, t3, t4, t5, t6) => (some (.int (t0)), ((zua ar 65 t1), (zuf (zuf (zuf (zuf (zuf fi 64 7 t2) 64 9 t3) 64 10 t4) 64 31 t5) 64 32 t6), (m1, m2, m3, m4, m5)))
set_option maxRecDepth 1000000 in
theorem t_md_readsThing {X : Nat × (Nat → Int32)} {ar fi : Nat → Nat → Int32} {m1 m2 m3 m4 m5 : Nat} {Q_md_readsWithin : Int32 → (Nat → Int32) → Int32 → Int32 → Int32 → Int32 → Option (Int32 × Int32 × Int32 × Int32)} {G_md_here : Int32 → Int32 → (Nat → Int32) → Bool} {W_md_here : Int32 → Int32 → (Nat → Int32) → Int32} {W_md_wrongAt : Int32 → Int32 → Int32} {F0_md_wrongAt : Int32 → Int32 → Int32} {G_md_isThing : Int32 → (Nat → Int32) → Bool} {W_md_isThing : Int32 → (Nat → Int32) → Int32} {Q_md_readsSpot : (Nat → Int32) → Int32 → Int32 → Int32 → Int32 → Int32 → Option (Int32 × Int32 × Int32 × Int32 × Int32 × Int32)} : zseg X zFT (zEx 189 (P_md_readsWithin Q_md_readsWithin) (zEx 158 (P_md_here G_md_here W_md_here) (zEx 160 (P_md_wrongAt W_md_wrongAt F0_md_wrongAt) (zEx 153 (P_md_isThing G_md_isThing W_md_isThing) (zEx 190 (P_md_readsSpot Q_md_readsSpot) zE0))))) zc_191 (fun p => false) 400 0 [.ref 64] [] (ar, fi, (m1, m2, m3, m4, m5)) = (
  zl (Q_md_readsWithin 23 (ar 70) (fi 64 7) (fi 64 8) (fi 64 9) (fi 64 10)) (fun v1 => zg v1.isSome (
  bif !decide (((zgt v1).1) = 0) then
   zg (G_md_here (fi 64 8) (((zgt v1).2.1)) (ar 70)) (
   zl (W_md_here (fi 64 8) (((zgt v1).2.1)) (ar 70)) (fun v2 =>
   bif decide (v2 = 64) then
    bif decide (v2 = 64) then
     bif !decide (v2 = 64) then
      zl (Q_md_readsWithin 9999 (ar 70) ((((zgt v1).2.1)) + 1) (fi 64 8) (((zgt v1).2.2.1)) (((zgt v1).2.2.2))) (fun v3 => zg v3.isSome (
      bif !decide (((zgt v3).1) = 0) then
       bif !decide (v2 = 61) then
        zg (Nat.beq 16 16 && (zin (264 + (((zgt v1).2.2.2))) 315)) (
        some (.inr (some (.int 1), ((zua ar 65 (zup (ar 65) ((264 + (((zgt v1).2.2.2))).toNatClampNeg) (((zgt v3).2.2.2)))), (zuf (zuf (zuf (zuf (zuf (zuf (zuf fi 64 7 (((zgt v1).2.1))) 64 9 (((zgt v1).2.2.1))) 64 10 (((zgt v1).2.2.2))) 64 7 ((((zgt v1).2.1)) + 1)) 64 7 (((zgt v3).2.1))) 64 9 (((zgt v3).2.2.1))) 64 10 (((zgt v3).2.2.2))), (m1, m2, m3, m4, m5)))))
       else
        zg (Nat.beq 16 16 && (zin (240 + (((zgt v1).2.2.2))) 315)) (
        some (.inr (some (.int 1), ((zua ar 65 (zup (ar 65) ((240 + (((zgt v1).2.2.2))).toNatClampNeg) (((zgt v3).2.2.2)))), (zuf (zuf (zuf (zuf (zuf (zuf (zuf fi 64 7 (((zgt v1).2.1))) 64 9 (((zgt v1).2.2.1))) 64 10 (((zgt v1).2.2.2))) 64 7 ((((zgt v1).2.1)) + 1)) 64 7 (((zgt v3).2.1))) 64 9 (((zgt v3).2.2.1))) 64 10 (((zgt v3).2.2.2))), (m1, m2, m3, m4, m5)))))
      else
       some (.inr (some (.int 0), (ar, (zuf (zuf (zuf (zuf (zuf (zuf (zuf fi 64 7 (((zgt v1).2.1))) 64 9 (((zgt v1).2.2.1))) 64 10 (((zgt v1).2.2.2))) 64 7 ((((zgt v1).2.1)) + 1)) 64 7 (((zgt v3).2.1))) 64 9 (((zgt v3).2.2.1))) 64 10 (((zgt v3).2.2.2))), (m1, m2, m3, m4, m5))))))
     else
      zl (Q_md_readsSpot (ar 70) ((((zgt v1).2.1)) + 1) (fi 64 8) (((zgt v1).2.2.1)) (((zgt v1).2.2.2)) (fi 64 31)) (fun v4 => zg v4.isSome (
      bif !decide (((zgt v4).1) = 0) then
       zg (Nat.beq 16 16 && (zin (192 + (((zgt v1).2.2.2))) 315)) (
       zg (Nat.beq 16 16 && (zin (216 + (((zgt v1).2.2.2))) 315)) (
       zg (Nat.beq 16 16 && (zin (288 + (((zgt v1).2.2.2))) 315)) (
       some (.inr (some (.int 1), ((zua (zua (zua ar 65 (zup (ar 65) ((192 + (((zgt v1).2.2.2))).toNatClampNeg) 1)) 65 (zup (zup (ar 65) ((192 + (((zgt v1).2.2.2))).toNatClampNeg) 1) ((216 + (((zgt v1).2.2.2))).toNatClampNeg) (((zgt v4).2.2.2.2.1)))) 65 (zup (zup (zup (ar 65) ((192 + (((zgt v1).2.2.2))).toNatClampNeg) 1) ((216 + (((zgt v1).2.2.2))).toNatClampNeg) (((zgt v4).2.2.2.2.1))) ((288 + (((zgt v1).2.2.2))).toNatClampNeg) 0)), (zuf (zuf (zuf (zuf (zuf (zuf (zuf (zuf (zuf fi 64 7 (((zgt v1).2.1))) 64 9 (((zgt v1).2.2.1))) 64 10 (((zgt v1).2.2.2))) 64 7 ((((zgt v1).2.1)) + 1)) 64 7 (((zgt v4).2.1))) 64 9 (((zgt v4).2.2.1))) 64 10 (((zgt v4).2.2.2.1))) 64 31 (((zgt v4).2.2.2.2.1))) 64 32 (((zgt v4).2.2.2.2.2))), (m1, m2, m3, m4, m5)))))))
      else
       some (.inr (some (.int 0), (ar, (zuf (zuf (zuf (zuf (zuf (zuf (zuf (zuf (zuf fi 64 7 (((zgt v1).2.1))) 64 9 (((zgt v1).2.2.1))) 64 10 (((zgt v1).2.2.2))) 64 7 ((((zgt v1).2.1)) + 1)) 64 7 (((zgt v4).2.1))) 64 9 (((zgt v4).2.2.1))) 64 10 (((zgt v4).2.2.2.1))) 64 31 (((zgt v4).2.2.2.2.1))) 64 32 (((zgt v4).2.2.2.2.2))), (m1, m2, m3, m4, m5))))))
    else
     zg (G_md_isThing (((zgt v1).2.2.2)) (ar 65)) (
     zl (W_md_isThing (((zgt v1).2.2.2)) (ar 65)) (fun v5 =>
     bif !decide (v5 = 0) then
      bif !decide (v2 = 64) then
       zl (Q_md_readsWithin 9999 (ar 70) ((((zgt v1).2.1)) + 1) (fi 64 8) (((zgt v1).2.2.1)) (((zgt v1).2.2.2))) (fun v6 => zg v6.isSome (
       bif !decide (((zgt v6).1) = 0) then
        bif !decide (v2 = 61) then
         zg (Nat.beq 16 16 && (zin (264 + (((zgt v1).2.2.2))) 315)) (
         some (.inr (some (.int 1), ((zua ar 65 (zup (ar 65) ((264 + (((zgt v1).2.2.2))).toNatClampNeg) (((zgt v6).2.2.2)))), (zuf (zuf (zuf (zuf (zuf (zuf (zuf fi 64 7 (((zgt v1).2.1))) 64 9 (((zgt v1).2.2.1))) 64 10 (((zgt v1).2.2.2))) 64 7 ((((zgt v1).2.1)) + 1)) 64 7 (((zgt v6).2.1))) 64 9 (((zgt v6).2.2.1))) 64 10 (((zgt v6).2.2.2))), (m1, m2, m3, m4, m5)))))
        else
         zg (Nat.beq 16 16 && (zin (240 + (((zgt v1).2.2.2))) 315)) (
         some (.inr (some (.int 1), ((zua ar 65 (zup (ar 65) ((240 + (((zgt v1).2.2.2))).toNatClampNeg) (((zgt v6).2.2.2)))), (zuf (zuf (zuf (zuf (zuf (zuf (zuf fi 64 7 (((zgt v1).2.1))) 64 9 (((zgt v1).2.2.1))) 64 10 (((zgt v1).2.2.2))) 64 7 ((((zgt v1).2.1)) + 1)) 64 7 (((zgt v6).2.1))) 64 9 (((zgt v6).2.2.1))) 64 10 (((zgt v6).2.2.2))), (m1, m2, m3, m4, m5)))))
       else
        some (.inr (some (.int 0), (ar, (zuf (zuf (zuf (zuf (zuf (zuf (zuf fi 64 7 (((zgt v1).2.1))) 64 9 (((zgt v1).2.2.1))) 64 10 (((zgt v1).2.2.2))) 64 7 ((((zgt v1).2.1)) + 1)) 64 7 (((zgt v6).2.1))) 64 9 (((zgt v6).2.2.1))) 64 10 (((zgt v6).2.2.2))), (m1, m2, m3, m4, m5))))))
      else
       zl (Q_md_readsSpot (ar 70) ((((zgt v1).2.1)) + 1) (fi 64 8) (((zgt v1).2.2.1)) (((zgt v1).2.2.2)) (fi 64 31)) (fun v7 => zg v7.isSome (
       bif !decide (((zgt v7).1) = 0) then
        zg (Nat.beq 16 16 && (zin (192 + (((zgt v1).2.2.2))) 315)) (
        zg (Nat.beq 16 16 && (zin (216 + (((zgt v1).2.2.2))) 315)) (
        zg (Nat.beq 16 16 && (zin (288 + (((zgt v1).2.2.2))) 315)) (
        some (.inr (some (.int 1), ((zua (zua (zua ar 65 (zup (ar 65) ((192 + (((zgt v1).2.2.2))).toNatClampNeg) 1)) 65 (zup (zup (ar 65) ((192 + (((zgt v1).2.2.2))).toNatClampNeg) 1) ((216 + (((zgt v1).2.2.2))).toNatClampNeg) (((zgt v7).2.2.2.2.1)))) 65 (zup (zup (zup (ar 65) ((192 + (((zgt v1).2.2.2))).toNatClampNeg) 1) ((216 + (((zgt v1).2.2.2))).toNatClampNeg) (((zgt v7).2.2.2.2.1))) ((288 + (((zgt v1).2.2.2))).toNatClampNeg) 0)), (zuf (zuf (zuf (zuf (zuf (zuf (zuf (zuf (zuf fi 64 7 (((zgt v1).2.1))) 64 9 (((zgt v1).2.2.1))) 64 10 (((zgt v1).2.2.2))) 64 7 ((((zgt v1).2.1)) + 1)) 64 7 (((zgt v7).2.1))) 64 9 (((zgt v7).2.2.1))) 64 10 (((zgt v7).2.2.2.1))) 64 31 (((zgt v7).2.2.2.2.1))) 64 32 (((zgt v7).2.2.2.2.2))), (m1, m2, m3, m4, m5)))))))
       else
        some (.inr (some (.int 0), (ar, (zuf (zuf (zuf (zuf (zuf (zuf (zuf (zuf (zuf fi 64 7 (((zgt v1).2.1))) 64 9 (((zgt v1).2.2.1))) 64 10 (((zgt v1).2.2.2))) 64 7 ((((zgt v1).2.1)) + 1)) 64 7 (((zgt v7).2.1))) 64 9 (((zgt v7).2.2.1))) 64 10 (((zgt v7).2.2.2.1))) 64 31 (((zgt v7).2.2.2.2.1))) 64 32 (((zgt v7).2.2.2.2.2))), (m1, m2, m3, m4, m5))))))
     else
      zl (W_md_wrongAt 7 (fi 64 7)) (fun v8 =>
      zl (F0_md_wrongAt 7 (fi 64 7)) (fun v9 =>
      zg (Nat.beq 1 0 || (decide (v8 = 0) || decide (v8 = 1))) (
      some (.inr (some (.int v8), (ar, (zuf (zuf (zuf (zuf fi 64 7 (((zgt v1).2.1))) 64 9 (((zgt v1).2.2.1))) 64 10 (((zgt v1).2.2.2))) 64 9 v9), (m1, m2, m3, m4, m5)))))))))
   else
    bif decide (v2 = 61) then
     bif decide (v2 = 64) then
      bif !decide (v2 = 64) then
       zl (Q_md_readsWithin 9999 (ar 70) ((((zgt v1).2.1)) + 1) (fi 64 8) (((zgt v1).2.2.1)) (((zgt v1).2.2.2))) (fun v10 => zg v10.isSome (
       bif !decide (((zgt v10).1) = 0) then
        bif !decide (v2 = 61) then
         zg (Nat.beq 16 16 && (zin (264 + (((zgt v1).2.2.2))) 315)) (
         some (.inr (some (.int 1), ((zua ar 65 (zup (ar 65) ((264 + (((zgt v1).2.2.2))).toNatClampNeg) (((zgt v10).2.2.2)))), (zuf (zuf (zuf (zuf (zuf (zuf (zuf fi 64 7 (((zgt v1).2.1))) 64 9 (((zgt v1).2.2.1))) 64 10 (((zgt v1).2.2.2))) 64 7 ((((zgt v1).2.1)) + 1)) 64 7 (((zgt v10).2.1))) 64 9 (((zgt v10).2.2.1))) 64 10 (((zgt v10).2.2.2))), (m1, m2, m3, m4, m5)))))
        else
         zg (Nat.beq 16 16 && (zin (240 + (((zgt v1).2.2.2))) 315)) (
         some (.inr (some (.int 1), ((zua ar 65 (zup (ar 65) ((240 + (((zgt v1).2.2.2))).toNatClampNeg) (((zgt v10).2.2.2)))), (zuf (zuf (zuf (zuf (zuf (zuf (zuf fi 64 7 (((zgt v1).2.1))) 64 9 (((zgt v1).2.2.1))) 64 10 (((zgt v1).2.2.2))) 64 7 ((((zgt v1).2.1)) + 1)) 64 7 (((zgt v10).2.1))) 64 9 (((zgt v10).2.2.1))) 64 10 (((zgt v10).2.2.2))), (m1, m2, m3, m4, m5)))))
       else
        some (.inr (some (.int 0), (ar, (zuf (zuf (zuf (zuf (zuf (zuf (zuf fi 64 7 (((zgt v1).2.1))) 64 9 (((zgt v1).2.2.1))) 64 10 (((zgt v1).2.2.2))) 64 7 ((((zgt v1).2.1)) + 1)) 64 7 (((zgt v10).2.1))) 64 9 (((zgt v10).2.2.1))) 64 10 (((zgt v10).2.2.2))), (m1, m2, m3, m4, m5))))))
      else
       zl (Q_md_readsSpot (ar 70) ((((zgt v1).2.1)) + 1) (fi 64 8) (((zgt v1).2.2.1)) (((zgt v1).2.2.2)) (fi 64 31)) (fun v11 => zg v11.isSome (
       bif !decide (((zgt v11).1) = 0) then
        zg (Nat.beq 16 16 && (zin (192 + (((zgt v1).2.2.2))) 315)) (
        zg (Nat.beq 16 16 && (zin (216 + (((zgt v1).2.2.2))) 315)) (
        zg (Nat.beq 16 16 && (zin (288 + (((zgt v1).2.2.2))) 315)) (
        some (.inr (some (.int 1), ((zua (zua (zua ar 65 (zup (ar 65) ((192 + (((zgt v1).2.2.2))).toNatClampNeg) 1)) 65 (zup (zup (ar 65) ((192 + (((zgt v1).2.2.2))).toNatClampNeg) 1) ((216 + (((zgt v1).2.2.2))).toNatClampNeg) (((zgt v11).2.2.2.2.1)))) 65 (zup (zup (zup (ar 65) ((192 + (((zgt v1).2.2.2))).toNatClampNeg) 1) ((216 + (((zgt v1).2.2.2))).toNatClampNeg) (((zgt v11).2.2.2.2.1))) ((288 + (((zgt v1).2.2.2))).toNatClampNeg) 0)), (zuf (zuf (zuf (zuf (zuf (zuf (zuf (zuf (zuf fi 64 7 (((zgt v1).2.1))) 64 9 (((zgt v1).2.2.1))) 64 10 (((zgt v1).2.2.2))) 64 7 ((((zgt v1).2.1)) + 1)) 64 7 (((zgt v11).2.1))) 64 9 (((zgt v11).2.2.1))) 64 10 (((zgt v11).2.2.2.1))) 64 31 (((zgt v11).2.2.2.2.1))) 64 32 (((zgt v11).2.2.2.2.2))), (m1, m2, m3, m4, m5)))))))
       else
        some (.inr (some (.int 0), (ar, (zuf (zuf (zuf (zuf (zuf (zuf (zuf (zuf (zuf fi 64 7 (((zgt v1).2.1))) 64 9 (((zgt v1).2.2.1))) 64 10 (((zgt v1).2.2.2))) 64 7 ((((zgt v1).2.1)) + 1)) 64 7 (((zgt v11).2.1))) 64 9 (((zgt v11).2.2.1))) 64 10 (((zgt v11).2.2.2.1))) 64 31 (((zgt v11).2.2.2.2.1))) 64 32 (((zgt v11).2.2.2.2.2))), (m1, m2, m3, m4, m5))))))
     else
      zg (G_md_isThing (((zgt v1).2.2.2)) (ar 65)) (
      zl (W_md_isThing (((zgt v1).2.2.2)) (ar 65)) (fun v12 =>
      bif !decide (v12 = 0) then
       bif !decide (v2 = 64) then
        zl (Q_md_readsWithin 9999 (ar 70) ((((zgt v1).2.1)) + 1) (fi 64 8) (((zgt v1).2.2.1)) (((zgt v1).2.2.2))) (fun v13 => zg v13.isSome (
        bif !decide (((zgt v13).1) = 0) then
         bif !decide (v2 = 61) then
          zg (Nat.beq 16 16 && (zin (264 + (((zgt v1).2.2.2))) 315)) (
          some (.inr (some (.int 1), ((zua ar 65 (zup (ar 65) ((264 + (((zgt v1).2.2.2))).toNatClampNeg) (((zgt v13).2.2.2)))), (zuf (zuf (zuf (zuf (zuf (zuf (zuf fi 64 7 (((zgt v1).2.1))) 64 9 (((zgt v1).2.2.1))) 64 10 (((zgt v1).2.2.2))) 64 7 ((((zgt v1).2.1)) + 1)) 64 7 (((zgt v13).2.1))) 64 9 (((zgt v13).2.2.1))) 64 10 (((zgt v13).2.2.2))), (m1, m2, m3, m4, m5)))))
         else
          zg (Nat.beq 16 16 && (zin (240 + (((zgt v1).2.2.2))) 315)) (
          some (.inr (some (.int 1), ((zua ar 65 (zup (ar 65) ((240 + (((zgt v1).2.2.2))).toNatClampNeg) (((zgt v13).2.2.2)))), (zuf (zuf (zuf (zuf (zuf (zuf (zuf fi 64 7 (((zgt v1).2.1))) 64 9 (((zgt v1).2.2.1))) 64 10 (((zgt v1).2.2.2))) 64 7 ((((zgt v1).2.1)) + 1)) 64 7 (((zgt v13).2.1))) 64 9 (((zgt v13).2.2.1))) 64 10 (((zgt v13).2.2.2))), (m1, m2, m3, m4, m5)))))
        else
         some (.inr (some (.int 0), (ar, (zuf (zuf (zuf (zuf (zuf (zuf (zuf fi 64 7 (((zgt v1).2.1))) 64 9 (((zgt v1).2.2.1))) 64 10 (((zgt v1).2.2.2))) 64 7 ((((zgt v1).2.1)) + 1)) 64 7 (((zgt v13).2.1))) 64 9 (((zgt v13).2.2.1))) 64 10 (((zgt v13).2.2.2))), (m1, m2, m3, m4, m5))))))
       else
        zl (Q_md_readsSpot (ar 70) ((((zgt v1).2.1)) + 1) (fi 64 8) (((zgt v1).2.2.1)) (((zgt v1).2.2.2)) (fi 64 31)) (fun v14 => zg v14.isSome (
        bif !decide (((zgt v14).1) = 0) then
         zg (Nat.beq 16 16 && (zin (192 + (((zgt v1).2.2.2))) 315)) (
         zg (Nat.beq 16 16 && (zin (216 + (((zgt v1).2.2.2))) 315)) (
         zg (Nat.beq 16 16 && (zin (288 + (((zgt v1).2.2.2))) 315)) (
         some (.inr (some (.int 1), ((zua (zua (zua ar 65 (zup (ar 65) ((192 + (((zgt v1).2.2.2))).toNatClampNeg) 1)) 65 (zup (zup (ar 65) ((192 + (((zgt v1).2.2.2))).toNatClampNeg) 1) ((216 + (((zgt v1).2.2.2))).toNatClampNeg) (((zgt v14).2.2.2.2.1)))) 65 (zup (zup (zup (ar 65) ((192 + (((zgt v1).2.2.2))).toNatClampNeg) 1) ((216 + (((zgt v1).2.2.2))).toNatClampNeg) (((zgt v14).2.2.2.2.1))) ((288 + (((zgt v1).2.2.2))).toNatClampNeg) 0)), (zuf (zuf (zuf (zuf (zuf (zuf (zuf (zuf (zuf fi 64 7 (((zgt v1).2.1))) 64 9 (((zgt v1).2.2.1))) 64 10 (((zgt v1).2.2.2))) 64 7 ((((zgt v1).2.1)) + 1)) 64 7 (((zgt v14).2.1))) 64 9 (((zgt v14).2.2.1))) 64 10 (((zgt v14).2.2.2.1))) 64 31 (((zgt v14).2.2.2.2.1))) 64 32 (((zgt v14).2.2.2.2.2))), (m1, m2, m3, m4, m5)))))))
        else
         some (.inr (some (.int 0), (ar, (zuf (zuf (zuf (zuf (zuf (zuf (zuf (zuf (zuf fi 64 7 (((zgt v1).2.1))) 64 9 (((zgt v1).2.2.1))) 64 10 (((zgt v1).2.2.2))) 64 7 ((((zgt v1).2.1)) + 1)) 64 7 (((zgt v14).2.1))) 64 9 (((zgt v14).2.2.1))) 64 10 (((zgt v14).2.2.2.1))) 64 31 (((zgt v14).2.2.2.2.1))) 64 32 (((zgt v14).2.2.2.2.2))), (m1, m2, m3, m4, m5))))))
      else
       zl (W_md_wrongAt 7 (fi 64 7)) (fun v15 =>
       zl (F0_md_wrongAt 7 (fi 64 7)) (fun v16 =>
       zg (Nat.beq 1 0 || (decide (v15 = 0) || decide (v15 = 1))) (
       some (.inr (some (.int v15), (ar, (zuf (zuf (zuf (zuf fi 64 7 (((zgt v1).2.1))) 64 9 (((zgt v1).2.2.1))) 64 10 (((zgt v1).2.2.2))) 64 9 v16), (m1, m2, m3, m4, m5)))))))))
    else
     bif decide (v2 = 43) then
      bif decide (v2 = 64) then
       bif !decide (v2 = 64) then
        zl (Q_md_readsWithin 9999 (ar 70) ((((zgt v1).2.1)) + 1) (fi 64 8) (((zgt v1).2.2.1)) (((zgt v1).2.2.2))) (fun v17 => zg v17.isSome (
        bif !decide (((zgt v17).1) = 0) then
         bif !decide (v2 = 61) then
          zg (Nat.beq 16 16 && (zin (264 + (((zgt v1).2.2.2))) 315)) (
          some (.inr (some (.int 1), ((zua ar 65 (zup (ar 65) ((264 + (((zgt v1).2.2.2))).toNatClampNeg) (((zgt v17).2.2.2)))), (zuf (zuf (zuf (zuf (zuf (zuf (zuf fi 64 7 (((zgt v1).2.1))) 64 9 (((zgt v1).2.2.1))) 64 10 (((zgt v1).2.2.2))) 64 7 ((((zgt v1).2.1)) + 1)) 64 7 (((zgt v17).2.1))) 64 9 (((zgt v17).2.2.1))) 64 10 (((zgt v17).2.2.2))), (m1, m2, m3, m4, m5)))))
         else
          zg (Nat.beq 16 16 && (zin (240 + (((zgt v1).2.2.2))) 315)) (
          some (.inr (some (.int 1), ((zua ar 65 (zup (ar 65) ((240 + (((zgt v1).2.2.2))).toNatClampNeg) (((zgt v17).2.2.2)))), (zuf (zuf (zuf (zuf (zuf (zuf (zuf fi 64 7 (((zgt v1).2.1))) 64 9 (((zgt v1).2.2.1))) 64 10 (((zgt v1).2.2.2))) 64 7 ((((zgt v1).2.1)) + 1)) 64 7 (((zgt v17).2.1))) 64 9 (((zgt v17).2.2.1))) 64 10 (((zgt v17).2.2.2))), (m1, m2, m3, m4, m5)))))
        else
         some (.inr (some (.int 0), (ar, (zuf (zuf (zuf (zuf (zuf (zuf (zuf fi 64 7 (((zgt v1).2.1))) 64 9 (((zgt v1).2.2.1))) 64 10 (((zgt v1).2.2.2))) 64 7 ((((zgt v1).2.1)) + 1)) 64 7 (((zgt v17).2.1))) 64 9 (((zgt v17).2.2.1))) 64 10 (((zgt v17).2.2.2))), (m1, m2, m3, m4, m5))))))
       else
        zl (Q_md_readsSpot (ar 70) ((((zgt v1).2.1)) + 1) (fi 64 8) (((zgt v1).2.2.1)) (((zgt v1).2.2.2)) (fi 64 31)) (fun v18 => zg v18.isSome (
        bif !decide (((zgt v18).1) = 0) then
         zg (Nat.beq 16 16 && (zin (192 + (((zgt v1).2.2.2))) 315)) (
         zg (Nat.beq 16 16 && (zin (216 + (((zgt v1).2.2.2))) 315)) (
         zg (Nat.beq 16 16 && (zin (288 + (((zgt v1).2.2.2))) 315)) (
         some (.inr (some (.int 1), ((zua (zua (zua ar 65 (zup (ar 65) ((192 + (((zgt v1).2.2.2))).toNatClampNeg) 1)) 65 (zup (zup (ar 65) ((192 + (((zgt v1).2.2.2))).toNatClampNeg) 1) ((216 + (((zgt v1).2.2.2))).toNatClampNeg) (((zgt v18).2.2.2.2.1)))) 65 (zup (zup (zup (ar 65) ((192 + (((zgt v1).2.2.2))).toNatClampNeg) 1) ((216 + (((zgt v1).2.2.2))).toNatClampNeg) (((zgt v18).2.2.2.2.1))) ((288 + (((zgt v1).2.2.2))).toNatClampNeg) 0)), (zuf (zuf (zuf (zuf (zuf (zuf (zuf (zuf (zuf fi 64 7 (((zgt v1).2.1))) 64 9 (((zgt v1).2.2.1))) 64 10 (((zgt v1).2.2.2))) 64 7 ((((zgt v1).2.1)) + 1)) 64 7 (((zgt v18).2.1))) 64 9 (((zgt v18).2.2.1))) 64 10 (((zgt v18).2.2.2.1))) 64 31 (((zgt v18).2.2.2.2.1))) 64 32 (((zgt v18).2.2.2.2.2))), (m1, m2, m3, m4, m5)))))))
        else
         some (.inr (some (.int 0), (ar, (zuf (zuf (zuf (zuf (zuf (zuf (zuf (zuf (zuf fi 64 7 (((zgt v1).2.1))) 64 9 (((zgt v1).2.2.1))) 64 10 (((zgt v1).2.2.2))) 64 7 ((((zgt v1).2.1)) + 1)) 64 7 (((zgt v18).2.1))) 64 9 (((zgt v18).2.2.1))) 64 10 (((zgt v18).2.2.2.1))) 64 31 (((zgt v18).2.2.2.2.1))) 64 32 (((zgt v18).2.2.2.2.2))), (m1, m2, m3, m4, m5))))))
      else
       zg (G_md_isThing (((zgt v1).2.2.2)) (ar 65)) (
       zl (W_md_isThing (((zgt v1).2.2.2)) (ar 65)) (fun v19 =>
       bif !decide (v19 = 0) then
        bif !decide (v2 = 64) then
         zl (Q_md_readsWithin 9999 (ar 70) ((((zgt v1).2.1)) + 1) (fi 64 8) (((zgt v1).2.2.1)) (((zgt v1).2.2.2))) (fun v20 => zg v20.isSome (
         bif !decide (((zgt v20).1) = 0) then
          bif !decide (v2 = 61) then
           zg (Nat.beq 16 16 && (zin (264 + (((zgt v1).2.2.2))) 315)) (
           some (.inr (some (.int 1), ((zua ar 65 (zup (ar 65) ((264 + (((zgt v1).2.2.2))).toNatClampNeg) (((zgt v20).2.2.2)))), (zuf (zuf (zuf (zuf (zuf (zuf (zuf fi 64 7 (((zgt v1).2.1))) 64 9 (((zgt v1).2.2.1))) 64 10 (((zgt v1).2.2.2))) 64 7 ((((zgt v1).2.1)) + 1)) 64 7 (((zgt v20).2.1))) 64 9 (((zgt v20).2.2.1))) 64 10 (((zgt v20).2.2.2))), (m1, m2, m3, m4, m5)))))
          else
           zg (Nat.beq 16 16 && (zin (240 + (((zgt v1).2.2.2))) 315)) (
           some (.inr (some (.int 1), ((zua ar 65 (zup (ar 65) ((240 + (((zgt v1).2.2.2))).toNatClampNeg) (((zgt v20).2.2.2)))), (zuf (zuf (zuf (zuf (zuf (zuf (zuf fi 64 7 (((zgt v1).2.1))) 64 9 (((zgt v1).2.2.1))) 64 10 (((zgt v1).2.2.2))) 64 7 ((((zgt v1).2.1)) + 1)) 64 7 (((zgt v20).2.1))) 64 9 (((zgt v20).2.2.1))) 64 10 (((zgt v20).2.2.2))), (m1, m2, m3, m4, m5)))))
         else
          some (.inr (some (.int 0), (ar, (zuf (zuf (zuf (zuf (zuf (zuf (zuf fi 64 7 (((zgt v1).2.1))) 64 9 (((zgt v1).2.2.1))) 64 10 (((zgt v1).2.2.2))) 64 7 ((((zgt v1).2.1)) + 1)) 64 7 (((zgt v20).2.1))) 64 9 (((zgt v20).2.2.1))) 64 10 (((zgt v20).2.2.2))), (m1, m2, m3, m4, m5))))))
        else
         zl (Q_md_readsSpot (ar 70) ((((zgt v1).2.1)) + 1) (fi 64 8) (((zgt v1).2.2.1)) (((zgt v1).2.2.2)) (fi 64 31)) (fun v21 => zg v21.isSome (
         bif !decide (((zgt v21).1) = 0) then
          zg (Nat.beq 16 16 && (zin (192 + (((zgt v1).2.2.2))) 315)) (
          zg (Nat.beq 16 16 && (zin (216 + (((zgt v1).2.2.2))) 315)) (
          zg (Nat.beq 16 16 && (zin (288 + (((zgt v1).2.2.2))) 315)) (
          some (.inr (some (.int 1), ((zua (zua (zua ar 65 (zup (ar 65) ((192 + (((zgt v1).2.2.2))).toNatClampNeg) 1)) 65 (zup (zup (ar 65) ((192 + (((zgt v1).2.2.2))).toNatClampNeg) 1) ((216 + (((zgt v1).2.2.2))).toNatClampNeg) (((zgt v21).2.2.2.2.1)))) 65 (zup (zup (zup (ar 65) ((192 + (((zgt v1).2.2.2))).toNatClampNeg) 1) ((216 + (((zgt v1).2.2.2))).toNatClampNeg) (((zgt v21).2.2.2.2.1))) ((288 + (((zgt v1).2.2.2))).toNatClampNeg) 0)), (zuf (zuf (zuf (zuf (zuf (zuf (zuf (zuf (zuf fi 64 7 (((zgt v1).2.1))) 64 9 (((zgt v1).2.2.1))) 64 10 (((zgt v1).2.2.2))) 64 7 ((((zgt v1).2.1)) + 1)) 64 7 (((zgt v21).2.1))) 64 9 (((zgt v21).2.2.1))) 64 10 (((zgt v21).2.2.2.1))) 64 31 (((zgt v21).2.2.2.2.1))) 64 32 (((zgt v21).2.2.2.2.2))), (m1, m2, m3, m4, m5)))))))
         else
          some (.inr (some (.int 0), (ar, (zuf (zuf (zuf (zuf (zuf (zuf (zuf (zuf (zuf fi 64 7 (((zgt v1).2.1))) 64 9 (((zgt v1).2.2.1))) 64 10 (((zgt v1).2.2.2))) 64 7 ((((zgt v1).2.1)) + 1)) 64 7 (((zgt v21).2.1))) 64 9 (((zgt v21).2.2.1))) 64 10 (((zgt v21).2.2.2.1))) 64 31 (((zgt v21).2.2.2.2.1))) 64 32 (((zgt v21).2.2.2.2.2))), (m1, m2, m3, m4, m5))))))
       else
        zl (W_md_wrongAt 7 (fi 64 7)) (fun v22 =>
        zl (F0_md_wrongAt 7 (fi 64 7)) (fun v23 =>
        zg (Nat.beq 1 0 || (decide (v22 = 0) || decide (v22 = 1))) (
        some (.inr (some (.int v22), (ar, (zuf (zuf (zuf (zuf fi 64 7 (((zgt v1).2.1))) 64 9 (((zgt v1).2.2.1))) 64 10 (((zgt v1).2.2.2))) 64 9 v23), (m1, m2, m3, m4, m5)))))))))
     else
      zl (W_md_wrongAt 1 (((zgt v1).2.1))) (fun v24 =>
      zl (F0_md_wrongAt 1 (((zgt v1).2.1))) (fun v25 =>
      zg (Nat.beq 1 0 || (decide (v24 = 0) || decide (v24 = 1))) (
      some (.inr (some (.int v24), (ar, (zuf (zuf (zuf (zuf fi 64 7 (((zgt v1).2.1))) 64 9 (((zgt v1).2.2.1))) 64 10 (((zgt v1).2.2.2))) 64 9 v25), (m1, m2, m3, m4, m5)))))))))
  else
   some (.inr (some (.int 0), (ar, (zuf (zuf (zuf fi 64 7 (((zgt v1).2.1))) 64 9 (((zgt v1).2.2.1))) 64 10 (((zgt v1).2.2.2))), (m1, m2, m3, m4, m5)))))) : Option ((Nat × List Value × List Value × zH2) ⊕ zO2)) := by with_unfolding_all rfl
set_option maxRecDepth 20000 in
theorem e_md_readsThing {X : Nat × (Nat → Int32)} {ar fi : Nat → Nat → Int32} {m1 m2 m3 m4 m5 : Nat} {o : zO2} : ∀ (q : T_md_readsThing), q_md_readsThing (ar 65) (ar 70) (fi 64 7) (fi 64 8) (fi 64 9) (fi 64 10) (fi 64 31) (fi 64 32) = some q → (fun t => O_md_readsThing ar fi m1 m2 m3 m4 m5 t = o) q → zR2 X zFT (zEx 189 S_md_readsWithin (zEx 158 S_md_here (zEx 160 S_md_wrongAt (zEx 153 S_md_isThing (zEx 190 S_md_readsSpot zE0))))) zc_191 0 [.ref 64] [] (ar, fi, (m1, m2, m3, m4, m5)) o := by
  intro q h hq
  unfold q_md_readsThing at h
  refine zT_seg t_md_readsThing ?_
  obtain ⟨TT, hTT⟩ : ∃ T, T = zT X zFT (zEx 189 S_md_readsWithin (zEx 158 S_md_here (zEx 160 S_md_wrongAt (zEx 153 S_md_isThing (zEx 190 S_md_readsSpot zE0))))) zc_191 o := ⟨_, rfl⟩
  rw [← hTT]
  refine zbd_el h (fun v1 hv h => zU_c hTT hv ?_)
  refine zb_el h (fun hb h => zU_t hTT hb ?_) (fun hb h => zU_f hTT hb ?_)
  · refine zg_el h (fun hg h => zU_g hTT hg ?_)
    refine zl_el h (fun h => zU_l hTT ?_)
    refine zb_el h (fun hb h => zU_t hTT hb ?_) (fun hb h => zU_f hTT hb ?_)
    · refine zb_el h (fun hb h => zU_t hTT hb ?_) (fun hb h => zU_f hTT hb ?_)
      · refine zb_el h (fun hb h => zU_t hTT hb ?_) (fun hb h => zU_f hTT hb ?_)
        · refine zbd_el h (fun v3 hv h => zU_c hTT hv ?_)
          refine zb_el h (fun hb h => zU_t hTT hb ?_) (fun hb h => zU_f hTT hb ?_)
          · refine zb_el h (fun hb h => zU_t hTT hb ?_) (fun hb h => zU_f hTT hb ?_)
            · refine zg_el h (fun hg h => zU_ga hTT hg ?_)
              rw [hTT]
              have hz := zsi (P := (fun t => O_md_readsThing ar fi m1 m2 m3 m4 m5 t = o)) h hq
              refine (zO_mk ?_ ?_).trans hz
              · first | with_reducible rfl | exact hA0_md_readsThing _ _
              · first | with_reducible rfl | exact hF1_md_readsThing _ _ _ _ _ _ _ _
            · refine zg_el h (fun hg h => zU_ga hTT hg ?_)
              rw [hTT]
              have hz := zsi (P := (fun t => O_md_readsThing ar fi m1 m2 m3 m4 m5 t = o)) h hq
              refine (zO_mk ?_ ?_).trans hz
              · first | with_reducible rfl | exact hA0_md_readsThing _ _
              · first | with_reducible rfl | exact hF1_md_readsThing _ _ _ _ _ _ _ _
          · rw [hTT]
            have hz := zsi (P := (fun t => O_md_readsThing ar fi m1 m2 m3 m4 m5 t = o)) h hq
            refine (zO_mk ?_ ?_).trans hz
            · first | with_reducible rfl | exact hA2_md_readsThing _
            · first | with_reducible rfl | exact hF1_md_readsThing _ _ _ _ _ _ _ _
        · refine zbd_el h (fun v4 hv h => zU_c hTT hv ?_)
          refine zb_el h (fun hb h => zU_t hTT hb ?_) (fun hb h => zU_f hTT hb ?_)
          · refine zg_el h (fun hg h => zU_ga hTT hg ?_)
            refine zg_el h (fun hg h => zU_ga hTT hg ?_)
            refine zg_el h (fun hg h => zU_ga hTT hg ?_)
            rw [hTT]
            have hz := zsi (P := (fun t => O_md_readsThing ar fi m1 m2 m3 m4 m5 t = o)) h hq
            refine (zO_mk ?_ ?_).trans hz
            · first | with_reducible rfl | exact hA3_md_readsThing _ _ _ _
            · first | with_reducible rfl | exact hF4_md_readsThing _ _ _ _ _ _ _ _ _ _
          · rw [hTT]
            have hz := zsi (P := (fun t => O_md_readsThing ar fi m1 m2 m3 m4 m5 t = o)) h hq
            refine (zO_mk ?_ ?_).trans hz
            · first | with_reducible rfl | exact hA2_md_readsThing _
            · first | with_reducible rfl | exact hF4_md_readsThing _ _ _ _ _ _ _ _ _ _
      · refine zg_el h (fun hg h => zU_g hTT hg ?_)
        refine zl_el h (fun h => zU_l hTT ?_)
        refine zb_el h (fun hb h => zU_t hTT hb ?_) (fun hb h => zU_f hTT hb ?_)
        · refine zb_el h (fun hb h => zU_t hTT hb ?_) (fun hb h => zU_f hTT hb ?_)
          · refine zbd_el h (fun v6 hv h => zU_c hTT hv ?_)
            refine zb_el h (fun hb h => zU_t hTT hb ?_) (fun hb h => zU_f hTT hb ?_)
            · refine zb_el h (fun hb h => zU_t hTT hb ?_) (fun hb h => zU_f hTT hb ?_)
              · refine zg_el h (fun hg h => zU_ga hTT hg ?_)
                rw [hTT]
                have hz := zsi (P := (fun t => O_md_readsThing ar fi m1 m2 m3 m4 m5 t = o)) h hq
                refine (zO_mk ?_ ?_).trans hz
                · first | with_reducible rfl | exact hA0_md_readsThing _ _
                · first | with_reducible rfl | exact hF1_md_readsThing _ _ _ _ _ _ _ _
              · refine zg_el h (fun hg h => zU_ga hTT hg ?_)
                rw [hTT]
                have hz := zsi (P := (fun t => O_md_readsThing ar fi m1 m2 m3 m4 m5 t = o)) h hq
                refine (zO_mk ?_ ?_).trans hz
                · first | with_reducible rfl | exact hA0_md_readsThing _ _
                · first | with_reducible rfl | exact hF1_md_readsThing _ _ _ _ _ _ _ _
            · rw [hTT]
              have hz := zsi (P := (fun t => O_md_readsThing ar fi m1 m2 m3 m4 m5 t = o)) h hq
              refine (zO_mk ?_ ?_).trans hz
              · first | with_reducible rfl | exact hA2_md_readsThing _
              · first | with_reducible rfl | exact hF1_md_readsThing _ _ _ _ _ _ _ _
          · refine zbd_el h (fun v7 hv h => zU_c hTT hv ?_)
            refine zb_el h (fun hb h => zU_t hTT hb ?_) (fun hb h => zU_f hTT hb ?_)
            · refine zg_el h (fun hg h => zU_ga hTT hg ?_)
              refine zg_el h (fun hg h => zU_ga hTT hg ?_)
              refine zg_el h (fun hg h => zU_ga hTT hg ?_)
              rw [hTT]
              have hz := zsi (P := (fun t => O_md_readsThing ar fi m1 m2 m3 m4 m5 t = o)) h hq
              refine (zO_mk ?_ ?_).trans hz
              · first | with_reducible rfl | exact hA3_md_readsThing _ _ _ _
              · first | with_reducible rfl | exact hF4_md_readsThing _ _ _ _ _ _ _ _ _ _
            · rw [hTT]
              have hz := zsi (P := (fun t => O_md_readsThing ar fi m1 m2 m3 m4 m5 t = o)) h hq
              refine (zO_mk ?_ ?_).trans hz
              · first | with_reducible rfl | exact hA2_md_readsThing _
              · first | with_reducible rfl | exact hF4_md_readsThing _ _ _ _ _ _ _ _ _ _
        · refine zl_el h (fun h => zU_l hTT ?_)
          refine zl_el h (fun h => zU_l hTT ?_)
          refine zg_el h (fun hg h => zU_gr hTT hg ?_)
          rw [hTT]
          have hz := zsi (P := (fun t => O_md_readsThing ar fi m1 m2 m3 m4 m5 t = o)) h hq
          refine (zO_mk ?_ ?_).trans hz
          · first | with_reducible rfl | exact hA2_md_readsThing _
          · first | with_reducible rfl | exact hF5_md_readsThing _ _ _ _ _
    · refine zb_el h (fun hb h => zU_t hTT hb ?_) (fun hb h => zU_f hTT hb ?_)
      · refine zb_el h (fun hb h => zU_t hTT hb ?_) (fun hb h => zU_f hTT hb ?_)
        · refine zb_el h (fun hb h => zU_t hTT hb ?_) (fun hb h => zU_f hTT hb ?_)
          · refine zbd_el h (fun v10 hv h => zU_c hTT hv ?_)
            refine zb_el h (fun hb h => zU_t hTT hb ?_) (fun hb h => zU_f hTT hb ?_)
            · refine zb_el h (fun hb h => zU_t hTT hb ?_) (fun hb h => zU_f hTT hb ?_)
              · refine zg_el h (fun hg h => zU_ga hTT hg ?_)
                rw [hTT]
                have hz := zsi (P := (fun t => O_md_readsThing ar fi m1 m2 m3 m4 m5 t = o)) h hq
                refine (zO_mk ?_ ?_).trans hz
                · first | with_reducible rfl | exact hA0_md_readsThing _ _
                · first | with_reducible rfl | exact hF1_md_readsThing _ _ _ _ _ _ _ _
              · refine zg_el h (fun hg h => zU_ga hTT hg ?_)
                rw [hTT]
                have hz := zsi (P := (fun t => O_md_readsThing ar fi m1 m2 m3 m4 m5 t = o)) h hq
                refine (zO_mk ?_ ?_).trans hz
                · first | with_reducible rfl | exact hA0_md_readsThing _ _
                · first | with_reducible rfl | exact hF1_md_readsThing _ _ _ _ _ _ _ _
            · rw [hTT]
              have hz := zsi (P := (fun t => O_md_readsThing ar fi m1 m2 m3 m4 m5 t = o)) h hq
              refine (zO_mk ?_ ?_).trans hz
              · first | with_reducible rfl | exact hA2_md_readsThing _
              · first | with_reducible rfl | exact hF1_md_readsThing _ _ _ _ _ _ _ _
          · refine zbd_el h (fun v11 hv h => zU_c hTT hv ?_)
            refine zb_el h (fun hb h => zU_t hTT hb ?_) (fun hb h => zU_f hTT hb ?_)
            · refine zg_el h (fun hg h => zU_ga hTT hg ?_)
              refine zg_el h (fun hg h => zU_ga hTT hg ?_)
              refine zg_el h (fun hg h => zU_ga hTT hg ?_)
              rw [hTT]
              have hz := zsi (P := (fun t => O_md_readsThing ar fi m1 m2 m3 m4 m5 t = o)) h hq
              refine (zO_mk ?_ ?_).trans hz
              · first | with_reducible rfl | exact hA3_md_readsThing _ _ _ _
              · first | with_reducible rfl | exact hF4_md_readsThing _ _ _ _ _ _ _ _ _ _
            · rw [hTT]
              have hz := zsi (P := (fun t => O_md_readsThing ar fi m1 m2 m3 m4 m5 t = o)) h hq
              refine (zO_mk ?_ ?_).trans hz
              · first | with_reducible rfl | exact hA2_md_readsThing _
              · first | with_reducible rfl | exact hF4_md_readsThing _ _ _ _ _ _ _ _ _ _
        · refine zg_el h (fun hg h => zU_g hTT hg ?_)
          refine zl_el h (fun h => zU_l hTT ?_)
          refine zb_el h (fun hb h => zU_t hTT hb ?_) (fun hb h => zU_f hTT hb ?_)
          · refine zb_el h (fun hb h => zU_t hTT hb ?_) (fun hb h => zU_f hTT hb ?_)
            · refine zbd_el h (fun v13 hv h => zU_c hTT hv ?_)
              refine zb_el h (fun hb h => zU_t hTT hb ?_) (fun hb h => zU_f hTT hb ?_)
              · refine zb_el h (fun hb h => zU_t hTT hb ?_) (fun hb h => zU_f hTT hb ?_)
                · refine zg_el h (fun hg h => zU_ga hTT hg ?_)
                  rw [hTT]
                  have hz := zsi (P := (fun t => O_md_readsThing ar fi m1 m2 m3 m4 m5 t = o)) h hq
                  refine (zO_mk ?_ ?_).trans hz
                  · first | with_reducible rfl | exact hA0_md_readsThing _ _
                  · first | with_reducible rfl | exact hF1_md_readsThing _ _ _ _ _ _ _ _
                · refine zg_el h (fun hg h => zU_ga hTT hg ?_)
                  rw [hTT]
                  have hz := zsi (P := (fun t => O_md_readsThing ar fi m1 m2 m3 m4 m5 t = o)) h hq
                  refine (zO_mk ?_ ?_).trans hz
                  · first | with_reducible rfl | exact hA0_md_readsThing _ _
                  · first | with_reducible rfl | exact hF1_md_readsThing _ _ _ _ _ _ _ _
              · rw [hTT]
                have hz := zsi (P := (fun t => O_md_readsThing ar fi m1 m2 m3 m4 m5 t = o)) h hq
                refine (zO_mk ?_ ?_).trans hz
                · first | with_reducible rfl | exact hA2_md_readsThing _
                · first | with_reducible rfl | exact hF1_md_readsThing _ _ _ _ _ _ _ _
            · refine zbd_el h (fun v14 hv h => zU_c hTT hv ?_)
              refine zb_el h (fun hb h => zU_t hTT hb ?_) (fun hb h => zU_f hTT hb ?_)
              · refine zg_el h (fun hg h => zU_ga hTT hg ?_)
                refine zg_el h (fun hg h => zU_ga hTT hg ?_)
                refine zg_el h (fun hg h => zU_ga hTT hg ?_)
                rw [hTT]
                have hz := zsi (P := (fun t => O_md_readsThing ar fi m1 m2 m3 m4 m5 t = o)) h hq
                refine (zO_mk ?_ ?_).trans hz
                · first | with_reducible rfl | exact hA3_md_readsThing _ _ _ _
                · first | with_reducible rfl | exact hF4_md_readsThing _ _ _ _ _ _ _ _ _ _
              · rw [hTT]
                have hz := zsi (P := (fun t => O_md_readsThing ar fi m1 m2 m3 m4 m5 t = o)) h hq
                refine (zO_mk ?_ ?_).trans hz
                · first | with_reducible rfl | exact hA2_md_readsThing _
                · first | with_reducible rfl | exact hF4_md_readsThing _ _ _ _ _ _ _ _ _ _
          · refine zl_el h (fun h => zU_l hTT ?_)
            refine zl_el h (fun h => zU_l hTT ?_)
            refine zg_el h (fun hg h => zU_gr hTT hg ?_)
            rw [hTT]
            have hz := zsi (P := (fun t => O_md_readsThing ar fi m1 m2 m3 m4 m5 t = o)) h hq
            refine (zO_mk ?_ ?_).trans hz
            · first | with_reducible rfl | exact hA2_md_readsThing _
            · first | with_reducible rfl | exact hF5_md_readsThing _ _ _ _ _
      · refine zb_el h (fun hb h => zU_t hTT hb ?_) (fun hb h => zU_f hTT hb ?_)
        · refine zb_el h (fun hb h => zU_t hTT hb ?_) (fun hb h => zU_f hTT hb ?_)
          · refine zb_el h (fun hb h => zU_t hTT hb ?_) (fun hb h => zU_f hTT hb ?_)
            · refine zbd_el h (fun v17 hv h => zU_c hTT hv ?_)
              refine zb_el h (fun hb h => zU_t hTT hb ?_) (fun hb h => zU_f hTT hb ?_)
              · refine zb_el h (fun hb h => zU_t hTT hb ?_) (fun hb h => zU_f hTT hb ?_)
                · refine zg_el h (fun hg h => zU_ga hTT hg ?_)
                  rw [hTT]
                  have hz := zsi (P := (fun t => O_md_readsThing ar fi m1 m2 m3 m4 m5 t = o)) h hq
                  refine (zO_mk ?_ ?_).trans hz
                  · first | with_reducible rfl | exact hA0_md_readsThing _ _
                  · first | with_reducible rfl | exact hF1_md_readsThing _ _ _ _ _ _ _ _
                · refine zg_el h (fun hg h => zU_ga hTT hg ?_)
                  rw [hTT]
                  have hz := zsi (P := (fun t => O_md_readsThing ar fi m1 m2 m3 m4 m5 t = o)) h hq
                  refine (zO_mk ?_ ?_).trans hz
                  · first | with_reducible rfl | exact hA0_md_readsThing _ _
                  · first | with_reducible rfl | exact hF1_md_readsThing _ _ _ _ _ _ _ _
              · rw [hTT]
                have hz := zsi (P := (fun t => O_md_readsThing ar fi m1 m2 m3 m4 m5 t = o)) h hq
                refine (zO_mk ?_ ?_).trans hz
                · first | with_reducible rfl | exact hA2_md_readsThing _
                · first | with_reducible rfl | exact hF1_md_readsThing _ _ _ _ _ _ _ _
            · refine zbd_el h (fun v18 hv h => zU_c hTT hv ?_)
              refine zb_el h (fun hb h => zU_t hTT hb ?_) (fun hb h => zU_f hTT hb ?_)
              · refine zg_el h (fun hg h => zU_ga hTT hg ?_)
                refine zg_el h (fun hg h => zU_ga hTT hg ?_)
                refine zg_el h (fun hg h => zU_ga hTT hg ?_)
                rw [hTT]
                have hz := zsi (P := (fun t => O_md_readsThing ar fi m1 m2 m3 m4 m5 t = o)) h hq
                refine (zO_mk ?_ ?_).trans hz
                · first | with_reducible rfl | exact hA3_md_readsThing _ _ _ _
                · first | with_reducible rfl | exact hF4_md_readsThing _ _ _ _ _ _ _ _ _ _
              · rw [hTT]
                have hz := zsi (P := (fun t => O_md_readsThing ar fi m1 m2 m3 m4 m5 t = o)) h hq
                refine (zO_mk ?_ ?_).trans hz
                · first | with_reducible rfl | exact hA2_md_readsThing _
                · first | with_reducible rfl | exact hF4_md_readsThing _ _ _ _ _ _ _ _ _ _
          · refine zg_el h (fun hg h => zU_g hTT hg ?_)
            refine zl_el h (fun h => zU_l hTT ?_)
            refine zb_el h (fun hb h => zU_t hTT hb ?_) (fun hb h => zU_f hTT hb ?_)
            · refine zb_el h (fun hb h => zU_t hTT hb ?_) (fun hb h => zU_f hTT hb ?_)
              · refine zbd_el h (fun v20 hv h => zU_c hTT hv ?_)
                refine zb_el h (fun hb h => zU_t hTT hb ?_) (fun hb h => zU_f hTT hb ?_)
                · refine zb_el h (fun hb h => zU_t hTT hb ?_) (fun hb h => zU_f hTT hb ?_)
                  · refine zg_el h (fun hg h => zU_ga hTT hg ?_)
                    rw [hTT]
                    have hz := zsi (P := (fun t => O_md_readsThing ar fi m1 m2 m3 m4 m5 t = o)) h hq
                    refine (zO_mk ?_ ?_).trans hz
                    · first | with_reducible rfl | exact hA0_md_readsThing _ _
                    · first | with_reducible rfl | exact hF1_md_readsThing _ _ _ _ _ _ _ _
                  · refine zg_el h (fun hg h => zU_ga hTT hg ?_)
                    rw [hTT]
                    have hz := zsi (P := (fun t => O_md_readsThing ar fi m1 m2 m3 m4 m5 t = o)) h hq
                    refine (zO_mk ?_ ?_).trans hz
                    · first | with_reducible rfl | exact hA0_md_readsThing _ _
                    · first | with_reducible rfl | exact hF1_md_readsThing _ _ _ _ _ _ _ _
                · rw [hTT]
                  have hz := zsi (P := (fun t => O_md_readsThing ar fi m1 m2 m3 m4 m5 t = o)) h hq
                  refine (zO_mk ?_ ?_).trans hz
                  · first | with_reducible rfl | exact hA2_md_readsThing _
                  · first | with_reducible rfl | exact hF1_md_readsThing _ _ _ _ _ _ _ _
              · refine zbd_el h (fun v21 hv h => zU_c hTT hv ?_)
                refine zb_el h (fun hb h => zU_t hTT hb ?_) (fun hb h => zU_f hTT hb ?_)
                · refine zg_el h (fun hg h => zU_ga hTT hg ?_)
                  refine zg_el h (fun hg h => zU_ga hTT hg ?_)
                  refine zg_el h (fun hg h => zU_ga hTT hg ?_)
                  rw [hTT]
                  have hz := zsi (P := (fun t => O_md_readsThing ar fi m1 m2 m3 m4 m5 t = o)) h hq
                  refine (zO_mk ?_ ?_).trans hz
                  · first | with_reducible rfl | exact hA3_md_readsThing _ _ _ _
                  · first | with_reducible rfl | exact hF4_md_readsThing _ _ _ _ _ _ _ _ _ _
                · rw [hTT]
                  have hz := zsi (P := (fun t => O_md_readsThing ar fi m1 m2 m3 m4 m5 t = o)) h hq
                  refine (zO_mk ?_ ?_).trans hz
                  · first | with_reducible rfl | exact hA2_md_readsThing _
                  · first | with_reducible rfl | exact hF4_md_readsThing _ _ _ _ _ _ _ _ _ _
            · refine zl_el h (fun h => zU_l hTT ?_)
              refine zl_el h (fun h => zU_l hTT ?_)
              refine zg_el h (fun hg h => zU_gr hTT hg ?_)
              rw [hTT]
              have hz := zsi (P := (fun t => O_md_readsThing ar fi m1 m2 m3 m4 m5 t = o)) h hq
              refine (zO_mk ?_ ?_).trans hz
              · first | with_reducible rfl | exact hA2_md_readsThing _
              · first | with_reducible rfl | exact hF5_md_readsThing _ _ _ _ _
        · refine zl_el h (fun h => zU_l hTT ?_)
          refine zl_el h (fun h => zU_l hTT ?_)
          refine zg_el h (fun hg h => zU_gr hTT hg ?_)
          rw [hTT]
          have hz := zsi (P := (fun t => O_md_readsThing ar fi m1 m2 m3 m4 m5 t = o)) h hq
          refine (zO_mk ?_ ?_).trans hz
          · first | with_reducible rfl | exact hA2_md_readsThing _
          · first | with_reducible rfl | exact hF5_md_readsThing _ _ _ _ _
  · rw [hTT]
    have hz := zsi (P := (fun t => O_md_readsThing ar fi m1 m2 m3 m4 m5 t = o)) h hq
    refine (zO_mk ?_ ?_).trans hz
    · first | with_reducible rfl | exact hA2_md_readsThing _
    · first | with_reducible rfl | exact hF6_md_readsThing _ _ _ _
theorem ok_md_readsThing (X : Nat × (Nat → Int32)) : zOkS X 191 S_md_readsThing 5 := zOkS_new (zOkE_cons (ok_md_readsWithin X) (by decide) (zOkE_cons (ok_md_here X) (by decide) (zOkE_cons (ok_md_wrongAt X) (by decide) (zOkE_cons (ok_md_isThing X) (by decide) (zOkE_cons (ok_md_readsSpot X) (by decide) (zOkE_nil X 4)))))) (by
  intro args g o h
  obtain ⟨ar, fi, m1, m2, m3, m4, m5⟩ := g
  unfold S_md_readsThing P_md_readsThing at h
  split at h
  · refine zb_el h (fun hI0 k0 => ?_) (fun _ h10 => ?_)
    · try simp only [Bool.and_eq_true] at hI0
      have j0 := hI0
      have e0 := Nat.eq_of_beq_eq_true j0
      subst e0
      exact zpe_el k0 (fun t ht ho => by obtain ⟨t0, t1, t2, t3, t4, t5, t6⟩ := t; exact e_md_readsThing _ ht ho)
    · cases h10
  · cases h)
