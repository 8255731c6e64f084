abbrev T_md_readsLine : Type := Int32 × (Nat → Int32) × (Nat → Int32) × Int32 × Int32 × Int32 × Int32 × Int32 × Int32
noncomputable def q_md_readsLine (a65 : Nat → Int32) (a68 : Nat → Int32) (a70 : Nat → Int32) (f64_7 : Int32) (f64_8 : Int32) (f64_9 : Int32) (f64_10 : Int32) (f64_30 : Int32) (f64_31 : Int32) (f64_32 : Int32) : Option T_md_readsLine :=
  zg (g_md_here (f64_8) (f64_7) a70) (
  zl (w_md_here (f64_8) (f64_7) a70) (fun v1 =>
  zg (g_md_isDigit (f64_8) (f64_7) a70) (
  zl (w_md_isDigit (f64_8) (f64_7) a70) (fun v2 =>
  bif !decide (v2 = 0) then
   bif !decide (f64_30 = 16) then
    zg (g_md_isDigit (f64_8) (f64_7) a70) (
    zl (w_md_isDigit (f64_8) (f64_7) a70) (fun v3 =>
    bif decide (v3 = 0) then
     bif !decide (v1 = 42) then
      bif !decide (v1 = 126) then
       zg (g_md_readsWind (f64_8) ((f64_7) + 1) a70 a65 (f64_9)) (
       zl (w_md_readsWind (f64_8) ((f64_7) + 1) a70 a65 (f64_9)) (fun v4 =>
       zl (a0_md_readsWind (f64_8) ((f64_7) + 1) a70 a65 (f64_9)) (fun v5 =>
       zl (f0_md_readsWind (f64_8) ((f64_7) + 1) a70 a65 (f64_9)) (fun v6 =>
       zl (f1_md_readsWind (f64_8) ((f64_7) + 1) a70 a65 (f64_9)) (fun v7 =>
       zg (decide (v4 = 0) || decide (v4 = 1)) (
       some (v4, v5, a68, v6, v7, f64_10, (f64_30) + 1, f64_31, f64_32)))))))
      else
       zbd (q_md_readsWater a65 a68 a70 ((f64_7) + 1) (f64_8) (f64_9) (f64_10) (f64_31)) (fun v8 =>
       zg (decide ((v8.1) = 0) || decide ((v8.1) = 1)) (
       some ((v8.1), ((v8.2.1)), ((v8.2.2.1)), (v8.2.2.2.1), (v8.2.2.2.2.1), (v8.2.2.2.2.2.1), (f64_30) + 1, (v8.2.2.2.2.2.2.1), (v8.2.2.2.2.2.2.2))))
     else
      zbd (q_md_readsFire a65 a68 a70 ((f64_7) + 1) (f64_8) (f64_9) (f64_10) (f64_31)) (fun v9 =>
      zg (decide ((v9.1) = 0) || decide ((v9.1) = 1)) (
      some ((v9.1), ((v9.2.1)), a68, (v9.2.2.1), (v9.2.2.2.1), (v9.2.2.2.2.1), (f64_30) + 1, (v9.2.2.2.2.2.1), (v9.2.2.2.2.2.2))))
    else
     zbd (q_md_readsThing a65 a70 (f64_7) (f64_8) (f64_9) (f64_10) (f64_31) (f64_32)) (fun v10 =>
     zg (decide ((v10.1) = 0) || decide ((v10.1) = 1)) (
     some ((v10.1), ((v10.2.1)), a68, (v10.2.2.1), (v10.2.2.2.1), (v10.2.2.2.2.1), (f64_30) + 1, (v10.2.2.2.2.2.1), (v10.2.2.2.2.2.2))))))
   else
    zl (w_md_wrongAt 4 (f64_7)) (fun v11 =>
    zl (f0_md_wrongAt 4 (f64_7)) (fun v12 =>
    zg (decide (v11 = 0) || decide (v11 = 1)) (
    some (v11, a65, a68, f64_7, v12, f64_10, f64_30, f64_31, f64_32))))
  else
   bif decide (v1 = 42) then
    bif !decide (f64_30 = 16) then
     zg (g_md_isDigit (f64_8) (f64_7) a70) (
     zl (w_md_isDigit (f64_8) (f64_7) a70) (fun v13 =>
     bif decide (v13 = 0) then
      bif !decide (v1 = 42) then
       bif !decide (v1 = 126) then
        zg (g_md_readsWind (f64_8) ((f64_7) + 1) a70 a65 (f64_9)) (
        zl (w_md_readsWind (f64_8) ((f64_7) + 1) a70 a65 (f64_9)) (fun v14 =>
        zl (a0_md_readsWind (f64_8) ((f64_7) + 1) a70 a65 (f64_9)) (fun v15 =>
        zl (f0_md_readsWind (f64_8) ((f64_7) + 1) a70 a65 (f64_9)) (fun v16 =>
        zl (f1_md_readsWind (f64_8) ((f64_7) + 1) a70 a65 (f64_9)) (fun v17 =>
        zg (decide (v14 = 0) || decide (v14 = 1)) (
        some (v14, v15, a68, v16, v17, f64_10, (f64_30) + 1, f64_31, f64_32)))))))
       else
        zbd (q_md_readsWater a65 a68 a70 ((f64_7) + 1) (f64_8) (f64_9) (f64_10) (f64_31)) (fun v18 =>
        zg (decide ((v18.1) = 0) || decide ((v18.1) = 1)) (
        some ((v18.1), ((v18.2.1)), ((v18.2.2.1)), (v18.2.2.2.1), (v18.2.2.2.2.1), (v18.2.2.2.2.2.1), (f64_30) + 1, (v18.2.2.2.2.2.2.1), (v18.2.2.2.2.2.2.2))))
      else
       zbd (q_md_readsFire a65 a68 a70 ((f64_7) + 1) (f64_8) (f64_9) (f64_10) (f64_31)) (fun v19 =>
       zg (decide ((v19.1) = 0) || decide ((v19.1) = 1)) (
       some ((v19.1), ((v19.2.1)), a68, (v19.2.2.1), (v19.2.2.2.1), (v19.2.2.2.2.1), (f64_30) + 1, (v19.2.2.2.2.2.1), (v19.2.2.2.2.2.2))))
     else
      zbd (q_md_readsThing a65 a70 (f64_7) (f64_8) (f64_9) (f64_10) (f64_31) (f64_32)) (fun v20 =>
      zg (decide ((v20.1) = 0) || decide ((v20.1) = 1)) (
      some ((v20.1), ((v20.2.1)), a68, (v20.2.2.1), (v20.2.2.2.1), (v20.2.2.2.2.1), (f64_30) + 1, (v20.2.2.2.2.2.1), (v20.2.2.2.2.2.2))))))
    else
     zl (w_md_wrongAt 4 (f64_7)) (fun v21 =>
     zl (f0_md_wrongAt 4 (f64_7)) (fun v22 =>
     zg (decide (v21 = 0) || decide (v21 = 1)) (
     some (v21, a65, a68, f64_7, v22, f64_10, f64_30, f64_31, f64_32))))
   else
    bif decide (v1 = 126) then
     bif !decide (f64_30 = 16) then
      zg (g_md_isDigit (f64_8) (f64_7) a70) (
      zl (w_md_isDigit (f64_8) (f64_7) a70) (fun v23 =>
      bif decide (v23 = 0) then
       bif !decide (v1 = 42) then
        bif !decide (v1 = 126) then
         zg (g_md_readsWind (f64_8) ((f64_7) + 1) a70 a65 (f64_9)) (
         zl (w_md_readsWind (f64_8) ((f64_7) + 1) a70 a65 (f64_9)) (fun v24 =>
         zl (a0_md_readsWind (f64_8) ((f64_7) + 1) a70 a65 (f64_9)) (fun v25 =>
         zl (f0_md_readsWind (f64_8) ((f64_7) + 1) a70 a65 (f64_9)) (fun v26 =>
         zl (f1_md_readsWind (f64_8) ((f64_7) + 1) a70 a65 (f64_9)) (fun v27 =>
         zg (decide (v24 = 0) || decide (v24 = 1)) (
         some (v24, v25, a68, v26, v27, f64_10, (f64_30) + 1, f64_31, f64_32)))))))
        else
         zbd (q_md_readsWater a65 a68 a70 ((f64_7) + 1) (f64_8) (f64_9) (f64_10) (f64_31)) (fun v28 =>
         zg (decide ((v28.1) = 0) || decide ((v28.1) = 1)) (
         some ((v28.1), ((v28.2.1)), ((v28.2.2.1)), (v28.2.2.2.1), (v28.2.2.2.2.1), (v28.2.2.2.2.2.1), (f64_30) + 1, (v28.2.2.2.2.2.2.1), (v28.2.2.2.2.2.2.2))))
       else
        zbd (q_md_readsFire a65 a68 a70 ((f64_7) + 1) (f64_8) (f64_9) (f64_10) (f64_31)) (fun v29 =>
        zg (decide ((v29.1) = 0) || decide ((v29.1) = 1)) (
        some ((v29.1), ((v29.2.1)), a68, (v29.2.2.1), (v29.2.2.2.1), (v29.2.2.2.2.1), (f64_30) + 1, (v29.2.2.2.2.2.1), (v29.2.2.2.2.2.2))))
      else
       zbd (q_md_readsThing a65 a70 (f64_7) (f64_8) (f64_9) (f64_10) (f64_31) (f64_32)) (fun v30 =>
       zg (decide ((v30.1) = 0) || decide ((v30.1) = 1)) (
       some ((v30.1), ((v30.2.1)), a68, (v30.2.2.1), (v30.2.2.2.1), (v30.2.2.2.2.1), (f64_30) + 1, (v30.2.2.2.2.2.1), (v30.2.2.2.2.2.2))))))
     else
      zl (w_md_wrongAt 4 (f64_7)) (fun v31 =>
      zl (f0_md_wrongAt 4 (f64_7)) (fun v32 =>
      zg (decide (v31 = 0) || decide (v31 = 1)) (
      some (v31, a65, a68, f64_7, v32, f64_10, f64_30, f64_31, f64_32))))
    else
     bif decide (v1 = 33) then
      bif !decide (f64_30 = 16) then
       zg (g_md_isDigit (f64_8) (f64_7) a70) (
       zl (w_md_isDigit (f64_8) (f64_7) a70) (fun v33 =>
       bif decide (v33 = 0) then
        bif !decide (v1 = 42) then
         bif !decide (v1 = 126) then
          zg (g_md_readsWind (f64_8) ((f64_7) + 1) a70 a65 (f64_9)) (
          zl (w_md_readsWind (f64_8) ((f64_7) + 1) a70 a65 (f64_9)) (fun v34 =>
          zl (a0_md_readsWind (f64_8) ((f64_7) + 1) a70 a65 (f64_9)) (fun v35 =>
          zl (f0_md_readsWind (f64_8) ((f64_7) + 1) a70 a65 (f64_9)) (fun v36 =>
          zl (f1_md_readsWind (f64_8) ((f64_7) + 1) a70 a65 (f64_9)) (fun v37 =>
          zg (decide (v34 = 0) || decide (v34 = 1)) (
          some (v34, v35, a68, v36, v37, f64_10, (f64_30) + 1, f64_31, f64_32)))))))
         else
          zbd (q_md_readsWater a65 a68 a70 ((f64_7) + 1) (f64_8) (f64_9) (f64_10) (f64_31)) (fun v38 =>
          zg (decide ((v38.1) = 0) || decide ((v38.1) = 1)) (
          some ((v38.1), ((v38.2.1)), ((v38.2.2.1)), (v38.2.2.2.1), (v38.2.2.2.2.1), (v38.2.2.2.2.2.1), (f64_30) + 1, (v38.2.2.2.2.2.2.1), (v38.2.2.2.2.2.2.2))))
        else
         zbd (q_md_readsFire a65 a68 a70 ((f64_7) + 1) (f64_8) (f64_9) (f64_10) (f64_31)) (fun v39 =>
         zg (decide ((v39.1) = 0) || decide ((v39.1) = 1)) (
         some ((v39.1), ((v39.2.1)), a68, (v39.2.2.1), (v39.2.2.2.1), (v39.2.2.2.2.1), (f64_30) + 1, (v39.2.2.2.2.2.1), (v39.2.2.2.2.2.2))))
       else
        zbd (q_md_readsThing a65 a70 (f64_7) (f64_8) (f64_9) (f64_10) (f64_31) (f64_32)) (fun v40 =>
        zg (decide ((v40.1) = 0) || decide ((v40.1) = 1)) (
        some ((v40.1), ((v40.2.1)), a68, (v40.2.2.1), (v40.2.2.2.1), (v40.2.2.2.2.1), (f64_30) + 1, (v40.2.2.2.2.2.1), (v40.2.2.2.2.2.2))))))
      else
       zl (w_md_wrongAt 4 (f64_7)) (fun v41 =>
       zl (f0_md_wrongAt 4 (f64_7)) (fun v42 =>
       zg (decide (v41 = 0) || decide (v41 = 1)) (
       some (v41, a65, a68, f64_7, v42, f64_10, f64_30, f64_31, f64_32))))
     else
      zl (w_md_wrongAt 1 (f64_7)) (fun v43 =>
      zl (f0_md_wrongAt 1 (f64_7)) (fun v44 =>
      zg (decide (v43 = 0) || decide (v43 = 1)) (
      some (v43, a65, a68, f64_7, v44, f64_10, f64_30, f64_31, f64_32))))))))
def P_md_readsLine (Q : (Nat → Int32) → (Nat → Int32) → (Nat → Int32) → Int32 → Int32 → Int32 → Int32 → Int32 → Int32 → Int32 → Option (Int32 × (Nat → Int32) × (Nat → Int32) × Int32 × Int32 × Int32 × Int32 × Int32 × Int32)) : zSp := fun as g => match as with
  | [.ref a] => bif Nat.beq a 64 then zpe (Q (g.1 65) (g.1 68) (g.1 70) (g.2.1 64 7) (g.2.1 64 8) (g.2.1 64 9) (g.2.1 64 10) (g.2.1 64 30) (g.2.1 64 31) (g.2.1 64 32)) (fun t => (some (.int (t.1)), ((zua (zua g.1 65 t.2.1) 68 t.2.2.1), (zuf (zuf (zuf (zuf (zuf (zuf g.2.1 64 7 t.2.2.2.1) 64 9 t.2.2.2.2.1) 64 10 t.2.2.2.2.2.1) 64 30 t.2.2.2.2.2.2.1) 64 31 t.2.2.2.2.2.2.2.1) 64 32 t.2.2.2.2.2.2.2.2), g.2.2))) else none
  | _ => none
noncomputable abbrev S_md_readsLine : zSp := P_md_readsLine q_md_readsLine
theorem hF6_md_readsLine (F : Nat → Nat → Int32) (w0 : Int32) : (zuf F 64 9 w0) = (zuf (zuf (zuf (zuf (zuf (zuf F 64 7 (F 64 7)) 64 9 w0) 64 10 (F 64 10)) 64 30 (F 64 30)) 64 31 (F 64 31)) 64 32 (F 64 32)) := zufk_ix F [((64, 9), w0)] [((64, 7), none), ((64, 9), some 0), ((64, 10), none), ((64, 30), none), ((64, 31), none), ((64, 32), none)] rfl
theorem hA5_md_readsLine (F : Nat → Nat → Int32) : F = (zua (zua F 65 (F 65)) 68 (F 68)) := zuak_ix F [] [(65, none), (68, none)] rfl
theorem hF4_md_readsLine (F : Nat → Nat → Int32) (w0 w1 w2 w3 w4 w5 : Int32) : (zuf (zuf (zuf (zuf (zuf (zuf F 64 30 w0) 64 7 w1) 64 9 w2) 64 10 w3) 64 31 w4) 64 32 w5) = (zuf (zuf (zuf (zuf (zuf (zuf F 64 7 w1) 64 9 w2) 64 10 w3) 64 30 w0) 64 31 w4) 64 32 w5) := zufk_ix F [((64, 30), w0), ((64, 7), w1), ((64, 9), w2), ((64, 10), w3), ((64, 31), w4), ((64, 32), w5)] [((64, 7), some 1), ((64, 9), some 2), ((64, 10), some 3), ((64, 30), some 0), ((64, 31), some 4), ((64, 32), some 5)] rfl
theorem hF3_md_readsLine (F : Nat → Nat → Int32) (w0 w1 w2 w3 w4 w5 w6 : Int32) : (zuf (zuf (zuf (zuf (zuf (zuf (zuf F 64 30 w0) 64 7 w1) 64 7 w2) 64 9 w3) 64 10 w4) 64 31 w5) 64 32 w6) = (zuf (zuf (zuf (zuf (zuf (zuf F 64 7 w2) 64 9 w3) 64 10 w4) 64 30 w0) 64 31 w5) 64 32 w6) := zufk_ix F [((64, 30), w0), ((64, 7), w1), ((64, 7), w2), ((64, 9), w3), ((64, 10), w4), ((64, 31), w5), ((64, 32), w6)] [((64, 7), some 2), ((64, 9), some 3), ((64, 10), some 4), ((64, 30), some 0), ((64, 31), some 5), ((64, 32), some 6)] rfl
theorem hA2_md_readsLine (F : Nat → Nat → Int32) (w0 w1 : Nat → Int32) : (zua (zua F 65 w0) 68 w1) = (zua (zua F 65 w0) 68 w1) := zuak_ix F [(65, w0), (68, w1)] [(65, some 0), (68, some 1)] rfl
theorem hF1_md_readsLine (F : Nat → Nat → Int32) (w0 w1 w2 w3 : Int32) : (zuf (zuf (zuf (zuf F 64 30 w0) 64 7 w1) 64 7 w2) 64 9 w3) = (zuf (zuf (zuf (zuf (zuf (zuf F 64 7 w2) 64 9 w3) 64 10 (F 64 10)) 64 30 w0) 64 31 (F 64 31)) 64 32 (F 64 32)) := zufk_ix F [((64, 30), w0), ((64, 7), w1), ((64, 7), w2), ((64, 9), w3)] [((64, 7), some 2), ((64, 9), some 3), ((64, 10), none), ((64, 30), some 0), ((64, 31), none), ((64, 32), none)] rfl
theorem hA0_md_readsLine (F : Nat → Nat → Int32) (w0 : Nat → Int32) : (zua F 65 w0) = (zua (zua F 65 w0) 68 (F 68)) := zuak_ix F [(65, w0)] [(65, some 0), (68, none)] rfl
def O_md_readsLine (ar fi : Nat → Nat → Int32) (m1 : Nat) (m2 : Nat) (m3 : Nat) (m4 : Nat) (m5 : Nat) (t : T_md_readsLine) : zO2 := match t with
  | (t0, t1, t2, t3, t4, t5, t6, t7, t8) => (some (.int (t0)), ((zua (zua ar 65 t1) 68 t2), (zuf (zuf (zuf (zuf (zuf (zuf fi 64 7 t3) 64 9 t4) 64 10 t5) 64 30 t6) 64 31 t7) 64 32 t8), (m1, m2, m3, m4, m5)))
set_option maxRecDepth 1000000 in
theorem t_md_readsLine {X : Nat × (Nat → Int32)} {ar fi : Nat → Nat → Int32} {m1 m2 m3 m4 m5 : Nat} {G_md_here : Int32 → Int32 → (Nat → Int32) → Bool} {W_md_here : Int32 → Int32 → (Nat → Int32) → Int32} {G_md_isDigit : Int32 → Int32 → (Nat → Int32) → Bool} {W_md_isDigit : Int32 → Int32 → (Nat → Int32) → Int32} {W_md_wrongAt : Int32 → Int32 → Int32} {F0_md_wrongAt : Int32 → Int32 → Int32} {Q_md_readsThing : (Nat → Int32) → (Nat → Int32) → Int32 → Int32 → Int32 → Int32 → Int32 → Int32 → Option (Int32 × (Nat → Int32) × Int32 × Int32 × Int32 × Int32 × Int32)} {Q_md_readsFire : (Nat → Int32) → (Nat → Int32) → (Nat → Int32) → Int32 → Int32 → Int32 → Int32 → Int32 → Option (Int32 × (Nat → Int32) × Int32 × Int32 × Int32 × Int32 × Int32)} {Q_md_readsWater : (Nat → Int32) → (Nat → Int32) → (Nat → Int32) → Int32 → Int32 → Int32 → Int32 → Int32 → Option (Int32 × (Nat → Int32) × (Nat → Int32) × Int32 × Int32 × Int32 × Int32 × Int32)} {G_md_readsWind : Int32 → Int32 → (Nat → Int32) → (Nat → Int32) → Int32 → Bool} {W_md_readsWind : Int32 → Int32 → (Nat → Int32) → (Nat → Int32) → Int32 → Int32} {A0_md_readsWind : Int32 → Int32 → (Nat → Int32) → (Nat → Int32) → Int32 → Nat → Int32} {F0_md_readsWind : Int32 → Int32 → (Nat → Int32) → (Nat → Int32) → Int32 → Int32} {F1_md_readsWind : Int32 → Int32 → (Nat → Int32) → (Nat → Int32) → Int32 → Int32} : zseg X zFT (zEx 158 (P_md_here G_md_here W_md_here) (zEx 159 (P_md_isDigit G_md_isDigit W_md_isDigit) (zEx 160 (P_md_wrongAt W_md_wrongAt F0_md_wrongAt) (zEx 191 (P_md_readsThing Q_md_readsThing) (zEx 192 (P_md_readsFire Q_md_readsFire) (zEx 193 (P_md_readsWater Q_md_readsWater) (zEx 194 (P_md_readsWind G_md_readsWind W_md_readsWind A0_md_readsWind F0_md_readsWind F1_md_readsWind) zE0))))))) zc_195 (fun p => false) 400 0 [.ref 64] [] (ar, fi, (m1, m2, m3, m4, m5)) = (
  zg (G_md_here (fi 64 8) (fi 64 7) (ar 70)) (
  zl (W_md_here (fi 64 8) (fi 64 7) (ar 70)) (fun v1 =>
  zg (G_md_isDigit (fi 64 8) (fi 64 7) (ar 70)) (
  zl (W_md_isDigit (fi 64 8) (fi 64 7) (ar 70)) (fun v2 =>
  bif !decide (v2 = 0) then
   bif !decide (fi 64 30 = 16) then
    zg (G_md_isDigit (fi 64 8) (fi 64 7) (ar 70)) (
    zl (W_md_isDigit (fi 64 8) (fi 64 7) (ar 70)) (fun v3 =>
    bif decide (v3 = 0) then
     bif !decide (v1 = 42) then
      bif !decide (v1 = 126) then
       zg (G_md_readsWind (fi 64 8) ((fi 64 7) + 1) (ar 70) (ar 65) (fi 64 9)) (
       zl (W_md_readsWind (fi 64 8) ((fi 64 7) + 1) (ar 70) (ar 65) (fi 64 9)) (fun v4 =>
       zl (A0_md_readsWind (fi 64 8) ((fi 64 7) + 1) (ar 70) (ar 65) (fi 64 9)) (fun v5 =>
       zl (F0_md_readsWind (fi 64 8) ((fi 64 7) + 1) (ar 70) (ar 65) (fi 64 9)) (fun v6 =>
       zl (F1_md_readsWind (fi 64 8) ((fi 64 7) + 1) (ar 70) (ar 65) (fi 64 9)) (fun v7 =>
       zg (Nat.beq 1 0 || (decide (v4 = 0) || decide (v4 = 1))) (
       some (.inr (some (.int v4), ((zua ar 65 v5), (zuf (zuf (zuf (zuf fi 64 30 ((fi 64 30) + 1)) 64 7 ((fi 64 7) + 1)) 64 7 v6) 64 9 v7), (m1, m2, m3, m4, m5))))))))))
      else
       zl (Q_md_readsWater (ar 65) (ar 68) (ar 70) ((fi 64 7) + 1) (fi 64 8) (fi 64 9) (fi 64 10) (fi 64 31)) (fun v8 => zg v8.isSome (
       zg (Nat.beq 1 0 || (decide (((zgt v8).1) = 0) || decide (((zgt v8).1) = 1))) (
       some (.inr (some (.int (((zgt v8).1))), ((zua (zua ar 65 (((zgt v8).2.1))) 68 (((zgt v8).2.2.1))), (zuf (zuf (zuf (zuf (zuf (zuf (zuf fi 64 30 ((fi 64 30) + 1)) 64 7 ((fi 64 7) + 1)) 64 7 (((zgt v8).2.2.2.1))) 64 9 (((zgt v8).2.2.2.2.1))) 64 10 (((zgt v8).2.2.2.2.2.1))) 64 31 (((zgt v8).2.2.2.2.2.2.1))) 64 32 (((zgt v8).2.2.2.2.2.2.2))), (m1, m2, m3, m4, m5)))))))
     else
      zl (Q_md_readsFire (ar 65) (ar 68) (ar 70) ((fi 64 7) + 1) (fi 64 8) (fi 64 9) (fi 64 10) (fi 64 31)) (fun v9 => zg v9.isSome (
      zg (Nat.beq 1 0 || (decide (((zgt v9).1) = 0) || decide (((zgt v9).1) = 1))) (
      some (.inr (some (.int (((zgt v9).1))), ((zua ar 65 (((zgt v9).2.1))), (zuf (zuf (zuf (zuf (zuf (zuf (zuf fi 64 30 ((fi 64 30) + 1)) 64 7 ((fi 64 7) + 1)) 64 7 (((zgt v9).2.2.1))) 64 9 (((zgt v9).2.2.2.1))) 64 10 (((zgt v9).2.2.2.2.1))) 64 31 (((zgt v9).2.2.2.2.2.1))) 64 32 (((zgt v9).2.2.2.2.2.2))), (m1, m2, m3, m4, m5)))))))
    else
     zl (Q_md_readsThing (ar 65) (ar 70) (fi 64 7) (fi 64 8) (fi 64 9) (fi 64 10) (fi 64 31) (fi 64 32)) (fun v10 => zg v10.isSome (
     zg (Nat.beq 1 0 || (decide (((zgt v10).1) = 0) || decide (((zgt v10).1) = 1))) (
     some (.inr (some (.int (((zgt v10).1))), ((zua ar 65 (((zgt v10).2.1))), (zuf (zuf (zuf (zuf (zuf (zuf fi 64 30 ((fi 64 30) + 1)) 64 7 (((zgt v10).2.2.1))) 64 9 (((zgt v10).2.2.2.1))) 64 10 (((zgt v10).2.2.2.2.1))) 64 31 (((zgt v10).2.2.2.2.2.1))) 64 32 (((zgt v10).2.2.2.2.2.2))), (m1, m2, m3, m4, m5)))))))))
   else
    zl (W_md_wrongAt 4 (fi 64 7)) (fun v11 =>
    zl (F0_md_wrongAt 4 (fi 64 7)) (fun v12 =>
    zg (Nat.beq 1 0 || (decide (v11 = 0) || decide (v11 = 1))) (
    some (.inr (some (.int v11), (ar, (zuf fi 64 9 v12), (m1, m2, m3, m4, m5)))))))
  else
   bif decide (v1 = 42) then
    bif !decide (fi 64 30 = 16) then
     zg (G_md_isDigit (fi 64 8) (fi 64 7) (ar 70)) (
     zl (W_md_isDigit (fi 64 8) (fi 64 7) (ar 70)) (fun v13 =>
     bif decide (v13 = 0) then
      bif !decide (v1 = 42) then
       bif !decide (v1 = 126) then
        zg (G_md_readsWind (fi 64 8) ((fi 64 7) + 1) (ar 70) (ar 65) (fi 64 9)) (
        zl (W_md_readsWind (fi 64 8) ((fi 64 7) + 1) (ar 70) (ar 65) (fi 64 9)) (fun v14 =>
        zl (A0_md_readsWind (fi 64 8) ((fi 64 7) + 1) (ar 70) (ar 65) (fi 64 9)) (fun v15 =>
        zl (F0_md_readsWind (fi 64 8) ((fi 64 7) + 1) (ar 70) (ar 65) (fi 64 9)) (fun v16 =>
        zl (F1_md_readsWind (fi 64 8) ((fi 64 7) + 1) (ar 70) (ar 65) (fi 64 9)) (fun v17 =>
        zg (Nat.beq 1 0 || (decide (v14 = 0) || decide (v14 = 1))) (
        some (.inr (some (.int v14), ((zua ar 65 v15), (zuf (zuf (zuf (zuf fi 64 30 ((fi 64 30) + 1)) 64 7 ((fi 64 7) + 1)) 64 7 v16) 64 9 v17), (m1, m2, m3, m4, m5))))))))))
       else
        zl (Q_md_readsWater (ar 65) (ar 68) (ar 70) ((fi 64 7) + 1) (fi 64 8) (fi 64 9) (fi 64 10) (fi 64 31)) (fun v18 => zg v18.isSome (
        zg (Nat.beq 1 0 || (decide (((zgt v18).1) = 0) || decide (((zgt v18).1) = 1))) (
        some (.inr (some (.int (((zgt v18).1))), ((zua (zua ar 65 (((zgt v18).2.1))) 68 (((zgt v18).2.2.1))), (zuf (zuf (zuf (zuf (zuf (zuf (zuf fi 64 30 ((fi 64 30) + 1)) 64 7 ((fi 64 7) + 1)) 64 7 (((zgt v18).2.2.2.1))) 64 9 (((zgt v18).2.2.2.2.1))) 64 10 (((zgt v18).2.2.2.2.2.1))) 64 31 (((zgt v18).2.2.2.2.2.2.1))) 64 32 (((zgt v18).2.2.2.2.2.2.2))), (m1, m2, m3, m4, m5)))))))
      else
       zl (Q_md_readsFire (ar 65) (ar 68) (ar 70) ((fi 64 7) + 1) (fi 64 8) (fi 64 9) (fi 64 10) (fi 64 31)) (fun v19 => zg v19.isSome (
       zg (Nat.beq 1 0 || (decide (((zgt v19).1) = 0) || decide (((zgt v19).1) = 1))) (
       some (.inr (some (.int (((zgt v19).1))), ((zua ar 65 (((zgt v19).2.1))), (zuf (zuf (zuf (zuf (zuf (zuf (zuf fi 64 30 ((fi 64 30) + 1)) 64 7 ((fi 64 7) + 1)) 64 7 (((zgt v19).2.2.1))) 64 9 (((zgt v19).2.2.2.1))) 64 10 (((zgt v19).2.2.2.2.1))) 64 31 (((zgt v19).2.2.2.2.2.1))) 64 32 (((zgt v19).2.2.2.2.2.2))), (m1, m2, m3, m4, m5)))))))
     else
      zl (Q_md_readsThing (ar 65) (ar 70) (fi 64 7) (fi 64 8) (fi 64 9) (fi 64 10) (fi 64 31) (fi 64 32)) (fun v20 => zg v20.isSome (
      zg (Nat.beq 1 0 || (decide (((zgt v20).1) = 0) || decide (((zgt v20).1) = 1))) (
      some (.inr (some (.int (((zgt v20).1))), ((zua ar 65 (((zgt v20).2.1))), (zuf (zuf (zuf (zuf (zuf (zuf fi 64 30 ((fi 64 30) + 1)) 64 7 (((zgt v20).2.2.1))) 64 9 (((zgt v20).2.2.2.1))) 64 10 (((zgt v20).2.2.2.2.1))) 64 31 (((zgt v20).2.2.2.2.2.1))) 64 32 (((zgt v20).2.2.2.2.2.2))), (m1, m2, m3, m4, m5)))))))))
    else
     zl (W_md_wrongAt 4 (fi 64 7)) (fun v21 =>
     zl (F0_md_wrongAt 4 (fi 64 7)) (fun v22 =>
     zg (Nat.beq 1 0 || (decide (v21 = 0) || decide (v21 = 1))) (
     some (.inr (some (.int v21), (ar, (zuf fi 64 9 v22), (m1, m2, m3, m4, m5)))))))
   else
    bif decide (v1 = 126) then
     bif !decide (fi 64 30 = 16) then
      zg (G_md_isDigit (fi 64 8) (fi 64 7) (ar 70)) (
      zl (W_md_isDigit (fi 64 8) (fi 64 7) (ar 70)) (fun v23 =>
      bif decide (v23 = 0) then
       bif !decide (v1 = 42) then
        bif !decide (v1 = 126) then
         zg (G_md_readsWind (fi 64 8) ((fi 64 7) + 1) (ar 70) (ar 65) (fi 64 9)) (
         zl (W_md_readsWind (fi 64 8) ((fi 64 7) + 1) (ar 70) (ar 65) (fi 64 9)) (fun v24 =>
         zl (A0_md_readsWind (fi 64 8) ((fi 64 7) + 1) (ar 70) (ar 65) (fi 64 9)) (fun v25 =>
         zl (F0_md_readsWind (fi 64 8) ((fi 64 7) + 1) (ar 70) (ar 65) (fi 64 9)) (fun v26 =>
         zl (F1_md_readsWind (fi 64 8) ((fi 64 7) + 1) (ar 70) (ar 65) (fi 64 9)) (fun v27 =>
         zg (Nat.beq 1 0 || (decide (v24 = 0) || decide (v24 = 1))) (
         some (.inr (some (.int v24), ((zua ar 65 v25), (zuf (zuf (zuf (zuf fi 64 30 ((fi 64 30) + 1)) 64 7 ((fi 64 7) + 1)) 64 7 v26) 64 9 v27), (m1, m2, m3, m4, m5))))))))))
        else
         zl (Q_md_readsWater (ar 65) (ar 68) (ar 70) ((fi 64 7) + 1) (fi 64 8) (fi 64 9) (fi 64 10) (fi 64 31)) (fun v28 => zg v28.isSome (
         zg (Nat.beq 1 0 || (decide (((zgt v28).1) = 0) || decide (((zgt v28).1) = 1))) (
         some (.inr (some (.int (((zgt v28).1))), ((zua (zua ar 65 (((zgt v28).2.1))) 68 (((zgt v28).2.2.1))), (zuf (zuf (zuf (zuf (zuf (zuf (zuf fi 64 30 ((fi 64 30) + 1)) 64 7 ((fi 64 7) + 1)) 64 7 (((zgt v28).2.2.2.1))) 64 9 (((zgt v28).2.2.2.2.1))) 64 10 (((zgt v28).2.2.2.2.2.1))) 64 31 (((zgt v28).2.2.2.2.2.2.1))) 64 32 (((zgt v28).2.2.2.2.2.2.2))), (m1, m2, m3, m4, m5)))))))
       else
        zl (Q_md_readsFire (ar 65) (ar 68) (ar 70) ((fi 64 7) + 1) (fi 64 8) (fi 64 9) (fi 64 10) (fi 64 31)) (fun v29 => zg v29.isSome (
        zg (Nat.beq 1 0 || (decide (((zgt v29).1) = 0) || decide (((zgt v29).1) = 1))) (
        some (.inr (some (.int (((zgt v29).1))), ((zua ar 65 (((zgt v29).2.1))), (zuf (zuf (zuf (zuf (zuf (zuf (zuf fi 64 30 ((fi 64 30) + 1)) 64 7 ((fi 64 7) + 1)) 64 7 (((zgt v29).2.2.1))) 64 9 (((zgt v29).2.2.2.1))) 64 10 (((zgt v29).2.2.2.2.1))) 64 31 (((zgt v29).2.2.2.2.2.1))) 64 32 (((zgt v29).2.2.2.2.2.2))), (m1, m2, m3, m4, m5)))))))
      else
       zl (Q_md_readsThing (ar 65) (ar 70) (fi 64 7) (fi 64 8) (fi 64 9) (fi 64 10) (fi 64 31) (fi 64 32)) (fun v30 => zg v30.isSome (
       zg (Nat.beq 1 0 || (decide (((zgt v30).1) = 0) || decide (((zgt v30).1) = 1))) (
       some (.inr (some (.int (((zgt v30).1))), ((zua ar 65 (((zgt v30).2.1))), (zuf (zuf (zuf (zuf (zuf (zuf fi 64 30 ((fi 64 30) + 1)) 64 7 (((zgt v30).2.2.1))) 64 9 (((zgt v30).2.2.2.1))) 64 10 (((zgt v30).2.2.2.2.1))) 64 31 (((zgt v30).2.2.2.2.2.1))) 64 32 (((zgt v30).2.2.2.2.2.2))), (m1, m2, m3, m4, m5)))))))))
     else
      zl (W_md_wrongAt 4 (fi 64 7)) (fun v31 =>
      zl (F0_md_wrongAt 4 (fi 64 7)) (fun v32 =>
      zg (Nat.beq 1 0 || (decide (v31 = 0) || decide (v31 = 1))) (
      some (.inr (some (.int v31), (ar, (zuf fi 64 9 v32), (m1, m2, m3, m4, m5)))))))
    else
     bif decide (v1 = 33) then
      bif !decide (fi 64 30 = 16) then
       zg (G_md_isDigit (fi 64 8) (fi 64 7) (ar 70)) (
       zl (W_md_isDigit (fi 64 8) (fi 64 7) (ar 70)) (fun v33 =>
       bif decide (v33 = 0) then
        bif !decide (v1 = 42) then
         bif !decide (v1 = 126) then
          zg (G_md_readsWind (fi 64 8) ((fi 64 7) + 1) (ar 70) (ar 65) (fi 64 9)) (
          zl (W_md_readsWind (fi 64 8) ((fi 64 7) + 1) (ar 70) (ar 65) (fi 64 9)) (fun v34 =>
          zl (A0_md_readsWind (fi 64 8) ((fi 64 7) + 1) (ar 70) (ar 65) (fi 64 9)) (fun v35 =>
          zl (F0_md_readsWind (fi 64 8) ((fi 64 7) + 1) (ar 70) (ar 65) (fi 64 9)) (fun v36 =>
          zl (F1_md_readsWind (fi 64 8) ((fi 64 7) + 1) (ar 70) (ar 65) (fi 64 9)) (fun v37 =>
          zg (Nat.beq 1 0 || (decide (v34 = 0) || decide (v34 = 1))) (
          some (.inr (some (.int v34), ((zua ar 65 v35), (zuf (zuf (zuf (zuf fi 64 30 ((fi 64 30) + 1)) 64 7 ((fi 64 7) + 1)) 64 7 v36) 64 9 v37), (m1, m2, m3, m4, m5))))))))))
         else
          zl (Q_md_readsWater (ar 65) (ar 68) (ar 70) ((fi 64 7) + 1) (fi 64 8) (fi 64 9) (fi 64 10) (fi 64 31)) (fun v38 => zg v38.isSome (
          zg (Nat.beq 1 0 || (decide (((zgt v38).1) = 0) || decide (((zgt v38).1) = 1))) (
          some (.inr (some (.int (((zgt v38).1))), ((zua (zua ar 65 (((zgt v38).2.1))) 68 (((zgt v38).2.2.1))), (zuf (zuf (zuf (zuf (zuf (zuf (zuf fi 64 30 ((fi 64 30) + 1)) 64 7 ((fi 64 7) + 1)) 64 7 (((zgt v38).2.2.2.1))) 64 9 (((zgt v38).2.2.2.2.1))) 64 10 (((zgt v38).2.2.2.2.2.1))) 64 31 (((zgt v38).2.2.2.2.2.2.1))) 64 32 (((zgt v38).2.2.2.2.2.2.2))), (m1, m2, m3, m4, m5)))))))
        else
         zl (Q_md_readsFire (ar 65) (ar 68) (ar 70) ((fi 64 7) + 1) (fi 64 8) (fi 64 9) (fi 64 10) (fi 64 31)) (fun v39 => zg v39.isSome (
         zg (Nat.beq 1 0 || (decide (((zgt v39).1) = 0) || decide (((zgt v39).1) = 1))) (
         some (.inr (some (.int (((zgt v39).1))), ((zua ar 65 (((zgt v39).2.1))), (zuf (zuf (zuf (zuf (zuf (zuf (zuf fi 64 30 ((fi 64 30) + 1)) 64 7 ((fi 64 7) + 1)) 64 7 (((zgt v39).2.2.1))) 64 9 (((zgt v39).2.2.2.1))) 64 10 (((zgt v39).2.2.2.2.1))) 64 31 (((zgt v39).2.2.2.2.2.1))) 64 32 (((zgt v39).2.2.2.2.2.2))), (m1, m2, m3, m4, m5)))))))
       else
        zl (Q_md_readsThing (ar 65) (ar 70) (fi 64 7) (fi 64 8) (fi 64 9) (fi 64 10) (fi 64 31) (fi 64 32)) (fun v40 => zg v40.isSome (
        zg (Nat.beq 1 0 || (decide (((zgt v40).1) = 0) || decide (((zgt v40).1) = 1))) (
        some (.inr (some (.int (((zgt v40).1))), ((zua ar 65 (((zgt v40).2.1))), (zuf (zuf (zuf (zuf (zuf (zuf fi 64 30 ((fi 64 30) + 1)) 64 7 (((zgt v40).2.2.1))) 64 9 (((zgt v40).2.2.2.1))) 64 10 (((zgt v40).2.2.2.2.1))) 64 31 (((zgt v40).2.2.2.2.2.1))) 64 32 (((zgt v40).2.2.2.2.2.2))), (m1, m2, m3, m4, m5)))))))))
      else
       zl (W_md_wrongAt 4 (fi 64 7)) (fun v41 =>
       zl (F0_md_wrongAt 4 (fi 64 7)) (fun v42 =>
       zg (Nat.beq 1 0 || (decide (v41 = 0) || decide (v41 = 1))) (
       some (.inr (some (.int v41), (ar, (zuf fi 64 9 v42), (m1, m2, m3, m4, m5)))))))
     else
      zl (W_md_wrongAt 1 (fi 64 7)) (fun v43 =>
      zl (F0_md_wrongAt 1 (fi 64 7)) (fun v44 =>
      zg (Nat.beq 1 0 || (decide (v43 = 0) || decide (v43 = 1))) (
      some (.inr (some (.int v43), (ar, (zuf fi 64 9 v44), (m1, m2, m3, m4, m5))))))))))) : Option ((Nat × List Value × List Value × zH2) ⊕ zO2)) := by with_unfolding_all rfl
set_option maxRecDepth 20000 in
theorem e_md_readsLine {X : Nat × (Nat → Int32)} {ar fi : Nat → Nat → Int32} {m1 m2 m3 m4 m5 : Nat} {o : zO2} : ∀ (q : T_md_readsLine), q_md_readsLine (ar 65) (ar 68) (ar 70) (fi 64 7) (fi 64 8) (fi 64 9) (fi 64 10) (fi 64 30) (fi 64 31) (fi 64 32) = some q → (fun t => O_md_readsLine ar fi m1 m2 m3 m4 m5 t = o) q → zR2 X zFT (zEx 158 S_md_here (zEx 159 S_md_isDigit (zEx 160 S_md_wrongAt (zEx 191 S_md_readsThing (zEx 192 S_md_readsFire (zEx 193 S_md_readsWater (zEx 194 S_md_readsWind zE0))))))) zc_195 0 [.ref 64] [] (ar, fi, (m1, m2, m3, m4, m5)) o := by
  intro q h hq
  unfold q_md_readsLine at h
  refine zT_seg t_md_readsLine ?_
  obtain ⟨TT, hTT⟩ : ∃ T, T = zT X zFT (zEx 158 S_md_here (zEx 159 S_md_isDigit (zEx 160 S_md_wrongAt (zEx 191 S_md_readsThing (zEx 192 S_md_readsFire (zEx 193 S_md_readsWater (zEx 194 S_md_readsWind zE0))))))) zc_195 o := ⟨_, rfl⟩
  rw [← hTT]
  refine zg_el h (fun hg h => zU_g hTT hg ?_)
  refine zl_el h (fun h => zU_l hTT ?_)
  refine zg_el h (fun hg h => zU_g hTT hg ?_)
  refine zl_el h (fun h => zU_l hTT ?_)
  refine zb_el h (fun hb h => zU_t hTT hb ?_) (fun hb h => zU_f hTT hb ?_)
  · refine zb_el h (fun hb h => zU_t hTT hb ?_) (fun hb h => zU_f hTT hb ?_)
    · refine zg_el h (fun hg h => zU_g hTT hg ?_)
      refine zl_el h (fun h => zU_l hTT ?_)
      refine zb_el h (fun hb h => zU_t hTT hb ?_) (fun hb h => zU_f hTT hb ?_)
      · refine zb_el h (fun hb h => zU_t hTT hb ?_) (fun hb h => zU_f hTT hb ?_)
        · refine zb_el h (fun hb h => zU_t hTT hb ?_) (fun hb h => zU_f hTT hb ?_)
          · refine zg_el h (fun hg h => zU_g hTT hg ?_)
            refine zl_el h (fun h => zU_l hTT ?_)
            refine zl_el h (fun h => zU_l hTT ?_)
            refine zl_el h (fun h => zU_l hTT ?_)
            refine zl_el h (fun h => zU_l hTT ?_)
            refine zg_el h (fun hg h => zU_gr hTT hg ?_)
            rw [hTT]
            have hz := zsi (P := (fun t => O_md_readsLine ar fi m1 m2 m3 m4 m5 t = o)) h hq
            refine (zO_mk ?_ ?_).trans hz
            · first | with_reducible rfl | exact hA0_md_readsLine _ _
            · first | with_reducible rfl | exact hF1_md_readsLine _ _ _ _ _
          · refine zbd_el h (fun v8 hv h => zU_c hTT hv ?_)
            refine zg_el h (fun hg h => zU_gr hTT hg ?_)
            rw [hTT]
            have hz := zsi (P := (fun t => O_md_readsLine ar fi m1 m2 m3 m4 m5 t = o)) h hq
            refine (zO_mk ?_ ?_).trans hz
            · first | with_reducible rfl | exact hA2_md_readsLine _ _ _
            · first | with_reducible rfl | exact hF3_md_readsLine _ _ _ _ _ _ _ _
        · refine zbd_el h (fun v9 hv h => zU_c hTT hv ?_)
          refine zg_el h (fun hg h => zU_gr hTT hg ?_)
          rw [hTT]
          have hz := zsi (P := (fun t => O_md_readsLine ar fi m1 m2 m3 m4 m5 t = o)) h hq
          refine (zO_mk ?_ ?_).trans hz
          · first | with_reducible rfl | exact hA0_md_readsLine _ _
          · first | with_reducible rfl | exact hF3_md_readsLine _ _ _ _ _ _ _ _
      · refine zbd_el h (fun v10 hv h => zU_c hTT hv ?_)
        refine zg_el h (fun hg h => zU_gr hTT hg ?_)
        rw [hTT]
        have hz := zsi (P := (fun t => O_md_readsLine ar fi m1 m2 m3 m4 m5 t = o)) h hq
        refine (zO_mk ?_ ?_).trans hz
        · first | with_reducible rfl | exact hA0_md_readsLine _ _
        · first | with_reducible rfl | exact hF4_md_readsLine _ _ _ _ _ _ _
    · refine zl_el h (fun h => zU_l hTT ?_)
      refine zl_el h (fun h => zU_l hTT ?_)
      refine zg_el h (fun hg h => zU_gr hTT hg ?_)
      rw [hTT]
      have hz := zsi (P := (fun t => O_md_readsLine ar fi m1 m2 m3 m4 m5 t = o)) h hq
      refine (zO_mk ?_ ?_).trans hz
      · first | with_reducible rfl | exact hA5_md_readsLine _
      · first | with_reducible rfl | exact hF6_md_readsLine _ _
  · refine zb_el h (fun hb h => zU_t hTT hb ?_) (fun hb h => zU_f hTT hb ?_)
    · refine zb_el h (fun hb h => zU_t hTT hb ?_) (fun hb h => zU_f hTT hb ?_)
      · refine zg_el h (fun hg h => zU_g hTT hg ?_)
        refine zl_el h (fun h => zU_l hTT ?_)
        refine zb_el h (fun hb h => zU_t hTT hb ?_) (fun hb h => zU_f hTT hb ?_)
        · refine zb_el h (fun hb h => zU_t hTT hb ?_) (fun hb h => zU_f hTT hb ?_)
          · refine zb_el h (fun hb h => zU_t hTT hb ?_) (fun hb h => zU_f hTT hb ?_)
            · refine zg_el h (fun hg h => zU_g hTT hg ?_)
              refine zl_el h (fun h => zU_l hTT ?_)
              refine zl_el h (fun h => zU_l hTT ?_)
              refine zl_el h (fun h => zU_l hTT ?_)
              refine zl_el h (fun h => zU_l hTT ?_)
              refine zg_el h (fun hg h => zU_gr hTT hg ?_)
              rw [hTT]
              have hz := zsi (P := (fun t => O_md_readsLine ar fi m1 m2 m3 m4 m5 t = o)) h hq
              refine (zO_mk ?_ ?_).trans hz
              · first | with_reducible rfl | exact hA0_md_readsLine _ _
              · first | with_reducible rfl | exact hF1_md_readsLine _ _ _ _ _
            · refine zbd_el h (fun v18 hv h => zU_c hTT hv ?_)
              refine zg_el h (fun hg h => zU_gr hTT hg ?_)
              rw [hTT]
              have hz := zsi (P := (fun t => O_md_readsLine ar fi m1 m2 m3 m4 m5 t = o)) h hq
              refine (zO_mk ?_ ?_).trans hz
              · first | with_reducible rfl | exact hA2_md_readsLine _ _ _
              · first | with_reducible rfl | exact hF3_md_readsLine _ _ _ _ _ _ _ _
          · refine zbd_el h (fun v19 hv h => zU_c hTT hv ?_)
            refine zg_el h (fun hg h => zU_gr hTT hg ?_)
            rw [hTT]
            have hz := zsi (P := (fun t => O_md_readsLine ar fi m1 m2 m3 m4 m5 t = o)) h hq
            refine (zO_mk ?_ ?_).trans hz
            · first | with_reducible rfl | exact hA0_md_readsLine _ _
            · first | with_reducible rfl | exact hF3_md_readsLine _ _ _ _ _ _ _ _
        · refine zbd_el h (fun v20 hv h => zU_c hTT hv ?_)
          refine zg_el h (fun hg h => zU_gr hTT hg ?_)
          rw [hTT]
          have hz := zsi (P := (fun t => O_md_readsLine ar fi m1 m2 m3 m4 m5 t = o)) h hq
          refine (zO_mk ?_ ?_).trans hz
          · first | with_reducible rfl | exact hA0_md_readsLine _ _
          · first | with_reducible rfl | exact hF4_md_readsLine _ _ _ _ _ _ _
      · refine zl_el h (fun h => zU_l hTT ?_)
        refine zl_el h (fun h => zU_l hTT ?_)
        refine zg_el h (fun hg h => zU_gr hTT hg ?_)
        rw [hTT]
        have hz := zsi (P := (fun t => O_md_readsLine ar fi m1 m2 m3 m4 m5 t = o)) h hq
        refine (zO_mk ?_ ?_).trans hz
        · first | with_reducible rfl | exact hA5_md_readsLine _
        · first | with_reducible rfl | exact hF6_md_readsLine _ _
    · refine zb_el h (fun hb h => zU_t hTT hb ?_) (fun hb h => zU_f hTT hb ?_)
      · refine zb_el h (fun hb h => zU_t hTT hb ?_) (fun hb h => zU_f hTT hb ?_)
        · refine zg_el h (fun hg h => zU_g hTT hg ?_)
          refine zl_el h (fun h => zU_l hTT ?_)
          refine zb_el h (fun hb h => zU_t hTT hb ?_) (fun hb h => zU_f hTT hb ?_)
          · refine zb_el h (fun hb h => zU_t hTT hb ?_) (fun hb h => zU_f hTT hb ?_)
            · refine zb_el h (fun hb h => zU_t hTT hb ?_) (fun hb h => zU_f hTT hb ?_)
              · refine zg_el h (fun hg h => zU_g hTT hg ?_)
                refine zl_el h (fun h => zU_l hTT ?_)
                refine zl_el h (fun h => zU_l hTT ?_)
                refine zl_el h (fun h => zU_l hTT ?_)
                refine zl_el h (fun h => zU_l hTT ?_)
                refine zg_el h (fun hg h => zU_gr hTT hg ?_)
                rw [hTT]
                have hz := zsi (P := (fun t => O_md_readsLine ar fi m1 m2 m3 m4 m5 t = o)) h hq
                refine (zO_mk ?_ ?_).trans hz
                · first | with_reducible rfl | exact hA0_md_readsLine _ _
                · first | with_reducible rfl | exact hF1_md_readsLine _ _ _ _ _
              · refine zbd_el h (fun v28 hv h => zU_c hTT hv ?_)
                refine zg_el h (fun hg h => zU_gr hTT hg ?_)
                rw [hTT]
                have hz := zsi (P := (fun t => O_md_readsLine ar fi m1 m2 m3 m4 m5 t = o)) h hq
                refine (zO_mk ?_ ?_).trans hz
                · first | with_reducible rfl | exact hA2_md_readsLine _ _ _
                · first | with_reducible rfl | exact hF3_md_readsLine _ _ _ _ _ _ _ _
            · refine zbd_el h (fun v29 hv h => zU_c hTT hv ?_)
              refine zg_el h (fun hg h => zU_gr hTT hg ?_)
              rw [hTT]
              have hz := zsi (P := (fun t => O_md_readsLine ar fi m1 m2 m3 m4 m5 t = o)) h hq
              refine (zO_mk ?_ ?_).trans hz
              · first | with_reducible rfl | exact hA0_md_readsLine _ _
              · first | with_reducible rfl | exact hF3_md_readsLine _ _ _ _ _ _ _ _
          · refine zbd_el h (fun v30 hv h => zU_c hTT hv ?_)
            refine zg_el h (fun hg h => zU_gr hTT hg ?_)
            rw [hTT]
            have hz := zsi (P := (fun t => O_md_readsLine ar fi m1 m2 m3 m4 m5 t = o)) h hq
            refine (zO_mk ?_ ?_).trans hz
            · first | with_reducible rfl | exact hA0_md_readsLine _ _
            · first | with_reducible rfl | exact hF4_md_readsLine _ _ _ _ _ _ _
        · refine zl_el h (fun h => zU_l hTT ?_)
          refine zl_el h (fun h => zU_l hTT ?_)
          refine zg_el h (fun hg h => zU_gr hTT hg ?_)
          rw [hTT]
          have hz := zsi (P := (fun t => O_md_readsLine ar fi m1 m2 m3 m4 m5 t = o)) h hq
          refine (zO_mk ?_ ?_).trans hz
          · first | with_reducible rfl | exact hA5_md_readsLine _
          · first | with_reducible rfl | exact hF6_md_readsLine _ _
      · refine zb_el h (fun hb h => zU_t hTT hb ?_) (fun hb h => zU_f hTT hb ?_)
        · refine zb_el h (fun hb h => zU_t hTT hb ?_) (fun hb h => zU_f hTT hb ?_)
          · refine zg_el h (fun hg h => zU_g hTT hg ?_)
            refine zl_el h (fun h => zU_l hTT ?_)
            refine zb_el h (fun hb h => zU_t hTT hb ?_) (fun hb h => zU_f hTT hb ?_)
            · refine zb_el h (fun hb h => zU_t hTT hb ?_) (fun hb h => zU_f hTT hb ?_)
              · refine zb_el h (fun hb h => zU_t hTT hb ?_) (fun hb h => zU_f hTT hb ?_)
                · refine zg_el h (fun hg h => zU_g hTT hg ?_)
                  refine zl_el h (fun h => zU_l hTT ?_)
                  refine zl_el h (fun h => zU_l hTT ?_)
                  refine zl_el h (fun h => zU_l hTT ?_)
                  refine zl_el h (fun h => zU_l hTT ?_)
                  refine zg_el h (fun hg h => zU_gr hTT hg ?_)
                  rw [hTT]
                  have hz := zsi (P := (fun t => O_md_readsLine ar fi m1 m2 m3 m4 m5 t = o)) h hq
                  refine (zO_mk ?_ ?_).trans hz
                  · first | with_reducible rfl | exact hA0_md_readsLine _ _
                  · first | with_reducible rfl | exact hF1_md_readsLine _ _ _ _ _
                · refine zbd_el h (fun v38 hv h => zU_c hTT hv ?_)
                  refine zg_el h (fun hg h => zU_gr hTT hg ?_)
                  rw [hTT]
                  have hz := zsi (P := (fun t => O_md_readsLine ar fi m1 m2 m3 m4 m5 t = o)) h hq
                  refine (zO_mk ?_ ?_).trans hz
                  · first | with_reducible rfl | exact hA2_md_readsLine _ _ _
                  · first | with_reducible rfl | exact hF3_md_readsLine _ _ _ _ _ _ _ _
              · refine zbd_el h (fun v39 hv h => zU_c hTT hv ?_)
                refine zg_el h (fun hg h => zU_gr hTT hg ?_)
                rw [hTT]
                have hz := zsi (P := (fun t => O_md_readsLine ar fi m1 m2 m3 m4 m5 t = o)) h hq
                refine (zO_mk ?_ ?_).trans hz
                · first | with_reducible rfl | exact hA0_md_readsLine _ _
                · first | with_reducible rfl | exact hF3_md_readsLine _ _ _ _ _ _ _ _
            · refine zbd_el h (fun v40 hv h => zU_c hTT hv ?_)
              refine zg_el h (fun hg h => zU_gr hTT hg ?_)
              rw [hTT]
              have hz := zsi (P := (fun t => O_md_readsLine ar fi m1 m2 m3 m4 m5 t = o)) h hq
              refine (zO_mk ?_ ?_).trans hz
              · first | with_reducible rfl | exact hA0_md_readsLine _ _
              · first | with_reducible rfl | exact hF4_md_readsLine _ _ _ _ _ _ _
          · refine zl_el h (fun h => zU_l hTT ?_)
            refine zl_el h (fun h => zU_l hTT ?_)
            refine zg_el h (fun hg h => zU_gr hTT hg ?_)
            rw [hTT]
            have hz := zsi (P := (fun t => O_md_readsLine ar fi m1 m2 m3 m4 m5 t = o)) h hq
            refine (zO_mk ?_ ?_).trans hz
            · first | with_reducible rfl | exact hA5_md_readsLine _
            · first | with_reducible rfl | exact hF6_md_readsLine _ _
        · refine zl_el h (fun h => zU_l hTT ?_)
          refine zl_el h (fun h => zU_l hTT ?_)
          refine zg_el h (fun hg h => zU_gr hTT hg ?_)
          rw [hTT]
          have hz := zsi (P := (fun t => O_md_readsLine ar fi m1 m2 m3 m4 m5 t = o)) h hq
          refine (zO_mk ?_ ?_).trans hz
          · first | with_reducible rfl | exact hA5_md_readsLine _
          · first | with_reducible rfl | exact hF6_md_readsLine _ _
theorem ok_md_readsLine (X : Nat × (Nat → Int32)) : zOkS X 195 S_md_readsLine 6 := zOkS_new (zOkE_cons (ok_md_here X) (by decide) (zOkE_cons (ok_md_isDigit X) (by decide) (zOkE_cons (ok_md_wrongAt X) (by decide) (zOkE_cons (ok_md_readsThing X) (by decide) (zOkE_cons (ok_md_readsFire X) (by decide) (zOkE_cons (ok_md_readsWater X) (by decide) (zOkE_cons (ok_md_readsWind X) (by decide) (zOkE_nil X 5)))))))) (by
  intro args g o h
  obtain ⟨ar, fi, m1, m2, m3, m4, m5⟩ := g
  unfold S_md_readsLine P_md_readsLine at h
  split at h
  · refine zb_el h (fun hI0 k0 => ?_) (fun _ h10 => ?_)
    · try simp only [Bool.and_eq_true] at hI0
      have j0 := hI0
      have e0 := Nat.eq_of_beq_eq_true j0
      subst e0
      exact zpe_el k0 (fun t ht ho => by obtain ⟨t0, t1, t2, t3, t4, t5, t6, t7, t8⟩ := t; exact e_md_readsLine _ ht ho)
    · cases h10
  · cases h)
