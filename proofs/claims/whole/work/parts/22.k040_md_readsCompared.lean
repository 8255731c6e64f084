abbrev T_md_readsCompared : Type := Int32 × (Nat → Int32) × (Nat → Int32) × Int32 × Int32 × Int32 × Int32 × Int32 × Int32
noncomputable def q_md_readsCompared (a70 : Nat → Int32) (a71 : Nat → Int32) (a72 : Nat → Int32) (f64_7 : Int32) (f64_8 : Int32) (f64_9 : Int32) (f64_10 : Int32) (f64_11 : Int32) (f64_12 : Int32) (f64_13 : Int32) : Option T_md_readsCompared :=
  zbd (q_md_readsSum a70 a71 a72 (f64_7) (f64_8) (f64_9) (f64_10) (f64_11) (f64_12) (f64_13)) (fun v1 =>
  bif !decide ((v1.1) = 0) then
   zg (g_md_here (f64_8) ((v1.2.2.2.1)) a70) (
   zl (w_md_here (f64_8) ((v1.2.2.2.1)) a70) (fun v2 =>
   bif !decide (v2 = 60) then
    zg (g_md_here (f64_8) ((v1.2.2.2.1)) a70) (
    zl (w_md_here (f64_8) ((v1.2.2.2.1)) a70) (fun v3 =>
    bif !decide (v3 = 62) then
     zg (g_md_here (f64_8) ((v1.2.2.2.1)) a70) (
     zl (w_md_here (f64_8) ((v1.2.2.2.1)) a70) (fun v4 =>
     bif !decide (v4 = 61) then
      zl (w_md_wrongAt 1 ((v1.2.2.2.1))) (fun v5 =>
      zl (f0_md_wrongAt 1 ((v1.2.2.2.1))) (fun v6 =>
      zg (decide (v5 = 0) || decide (v5 = 1)) (
      some (v5, ((v1.2.1)), ((v1.2.2.1)), (v1.2.2.2.1), v6, (v1.2.2.2.2.2.1), (v1.2.2.2.2.2.2.1), (v1.2.2.2.2.2.2.2.1), (v1.2.2.2.2.2.2.2.2)))))
     else
      zbd (q_md_readsSum a70 ((v1.2.1)) ((v1.2.2.1)) (((v1.2.2.2.1)) + 1) (f64_8) ((v1.2.2.2.2.1)) ((v1.2.2.2.2.2.1)) ((v1.2.2.2.2.2.2.1)) ((v1.2.2.2.2.2.2.2.1)) ((v1.2.2.2.2.2.2.2.2))) (fun v7 =>
      bif !decide ((v7.1) = 0) then
       zg (g_md_notes 9 0 ((v7.2.2.2.2.2.2.2.1)) ((v7.2.1))) (
       zl (a0_md_notes 9 0 ((v7.2.2.2.2.2.2.2.1)) ((v7.2.1))) (fun v8 =>
       zl (f0_md_notes 9 0 ((v7.2.2.2.2.2.2.2.1)) ((v7.2.1))) (fun v9 =>
       zbd (q_md_endsPiece v8 ((v7.2.2.1)) ((v7.2.2.2.2.2.2.1)) v9 ((v7.2.2.2.2.2.2.2.2))) (fun v10 =>
       some (1, ((v10.1)), ((v7.2.2.1)), (v7.2.2.2.1), (v7.2.2.2.2.1), (v7.2.2.2.2.2.1), (v10.2.1), (v10.2.2.1), (v10.2.2.2))))))
      else
       some (0, ((v7.2.1)), ((v7.2.2.1)), (v7.2.2.2.1), (v7.2.2.2.2.1), (v7.2.2.2.2.2.1), (v7.2.2.2.2.2.2.1), (v7.2.2.2.2.2.2.2.1), (v7.2.2.2.2.2.2.2.2)))))
    else
     zbd (q_md_readsSum a70 ((v1.2.1)) ((v1.2.2.1)) (((v1.2.2.2.1)) + 1) (f64_8) ((v1.2.2.2.2.1)) ((v1.2.2.2.2.2.1)) ((v1.2.2.2.2.2.2.1)) ((v1.2.2.2.2.2.2.2.1)) ((v1.2.2.2.2.2.2.2.2))) (fun v11 =>
     bif !decide ((v11.1) = 0) then
      zg (g_md_notes 8 0 ((v11.2.2.2.2.2.2.2.1)) ((v11.2.1))) (
      zl (a0_md_notes 8 0 ((v11.2.2.2.2.2.2.2.1)) ((v11.2.1))) (fun v12 =>
      zl (f0_md_notes 8 0 ((v11.2.2.2.2.2.2.2.1)) ((v11.2.1))) (fun v13 =>
      zbd (q_md_endsPiece v12 ((v11.2.2.1)) ((v11.2.2.2.2.2.2.1)) v13 ((v11.2.2.2.2.2.2.2.2))) (fun v14 =>
      some (1, ((v14.1)), ((v11.2.2.1)), (v11.2.2.2.1), (v11.2.2.2.2.1), (v11.2.2.2.2.2.1), (v14.2.1), (v14.2.2.1), (v14.2.2.2))))))
     else
      some (0, ((v11.2.1)), ((v11.2.2.1)), (v11.2.2.2.1), (v11.2.2.2.2.1), (v11.2.2.2.2.2.1), (v11.2.2.2.2.2.2.1), (v11.2.2.2.2.2.2.2.1), (v11.2.2.2.2.2.2.2.2)))))
   else
    zbd (q_md_readsSum a70 ((v1.2.1)) ((v1.2.2.1)) (((v1.2.2.2.1)) + 1) (f64_8) ((v1.2.2.2.2.1)) ((v1.2.2.2.2.2.1)) ((v1.2.2.2.2.2.2.1)) ((v1.2.2.2.2.2.2.2.1)) ((v1.2.2.2.2.2.2.2.2))) (fun v15 =>
    bif !decide ((v15.1) = 0) then
     zg (g_md_notes 7 0 ((v15.2.2.2.2.2.2.2.1)) ((v15.2.1))) (
     zl (a0_md_notes 7 0 ((v15.2.2.2.2.2.2.2.1)) ((v15.2.1))) (fun v16 =>
     zl (f0_md_notes 7 0 ((v15.2.2.2.2.2.2.2.1)) ((v15.2.1))) (fun v17 =>
     zbd (q_md_endsPiece v16 ((v15.2.2.1)) ((v15.2.2.2.2.2.2.1)) v17 ((v15.2.2.2.2.2.2.2.2))) (fun v18 =>
     some (1, ((v18.1)), ((v15.2.2.1)), (v15.2.2.2.1), (v15.2.2.2.2.1), (v15.2.2.2.2.2.1), (v18.2.1), (v18.2.2.1), (v18.2.2.2))))))
    else
     some (0, ((v15.2.1)), ((v15.2.2.1)), (v15.2.2.2.1), (v15.2.2.2.2.1), (v15.2.2.2.2.2.1), (v15.2.2.2.2.2.2.1), (v15.2.2.2.2.2.2.2.1), (v15.2.2.2.2.2.2.2.2)))))
  else
   some (0, ((v1.2.1)), ((v1.2.2.1)), (v1.2.2.2.1), (v1.2.2.2.2.1), (v1.2.2.2.2.2.1), (v1.2.2.2.2.2.2.1), (v1.2.2.2.2.2.2.2.1), (v1.2.2.2.2.2.2.2.2)))
def P_md_readsCompared (Q : (Nat → Int32) → (Nat → Int32) → (Nat → Int32) → Int32 → Int32 → Int32 → Int32 → Int32 → Int32 → Int32 → Option (Int32 × (Nat → Int32) × (Nat → Int32) × Int32 × Int32 × Int32 × Int32 × Int32 × Int32)) : zSp := fun as g => match as with
  | [.ref a] => bif Nat.beq a 64 then zpe (Q (g.1 70) (g.1 71) (g.1 72) (g.2.1 64 7) (g.2.1 64 8) (g.2.1 64 9) (g.2.1 64 10) (g.2.1 64 11) (g.2.1 64 12) (g.2.1 64 13)) (fun t => (some (.int (t.1)), ((zua (zua g.1 71 t.2.1) 72 t.2.2.1), (zuf (zuf (zuf (zuf (zuf (zuf g.2.1 64 7 t.2.2.2.1) 64 9 t.2.2.2.2.1) 64 10 t.2.2.2.2.2.1) 64 11 t.2.2.2.2.2.2.1) 64 12 t.2.2.2.2.2.2.2.1) 64 13 t.2.2.2.2.2.2.2.2), g.2.2))) else none
  | _ => none
noncomputable abbrev S_md_readsCompared : zSp := P_md_readsCompared q_md_readsCompared
theorem hF6_md_readsCompared (F : Nat → Nat → Int32) (w0 w1 w2 w3 w4 w5 : Int32) : (zuf (zuf (zuf (zuf (zuf (zuf F 64 7 w0) 64 9 w1) 64 10 w2) 64 11 w3) 64 12 w4) 64 13 w5) = (zuf (zuf (zuf (zuf (zuf (zuf F 64 7 w0) 64 9 w1) 64 10 w2) 64 11 w3) 64 12 w4) 64 13 w5) := zufk_ix F [((64, 7), w0), ((64, 9), w1), ((64, 10), w2), ((64, 11), w3), ((64, 12), w4), ((64, 13), w5)] [((64, 7), some 0), ((64, 9), some 1), ((64, 10), some 2), ((64, 11), some 3), ((64, 12), some 4), ((64, 13), some 5)] rfl
theorem hF5_md_readsCompared (F : Nat → Nat → Int32) (w0 w1 w2 w3 w4 w5 w6 w7 w8 w9 w10 w11 w12 : Int32) : (zuf (zuf (zuf (zuf (zuf (zuf (zuf (zuf (zuf (zuf (zuf (zuf (zuf F 64 7 w0) 64 9 w1) 64 10 w2) 64 11 w3) 64 12 w4) 64 13 w5) 64 7 w6) 64 7 w7) 64 9 w8) 64 10 w9) 64 11 w10) 64 12 w11) 64 13 w12) = (zuf (zuf (zuf (zuf (zuf (zuf F 64 7 w7) 64 9 w8) 64 10 w9) 64 11 w10) 64 12 w11) 64 13 w12) := zufk_ix F [((64, 7), w0), ((64, 9), w1), ((64, 10), w2), ((64, 11), w3), ((64, 12), w4), ((64, 13), w5), ((64, 7), w6), ((64, 7), w7), ((64, 9), w8), ((64, 10), w9), ((64, 11), w10), ((64, 12), w11), ((64, 13), w12)] [((64, 7), some 7), ((64, 9), some 8), ((64, 10), some 9), ((64, 11), some 10), ((64, 12), some 11), ((64, 13), some 12)] rfl
theorem hA4_md_readsCompared (F : Nat → Nat → Int32) (w0 w1 w2 w3 : Nat → Int32) : (zua (zua (zua (zua F 71 w0) 72 w1) 71 w2) 72 w3) = (zua (zua F 71 w2) 72 w3) := zuak_ix F [(71, w0), (72, w1), (71, w2), (72, w3)] [(71, some 2), (72, some 3)] rfl
theorem hF3_md_readsCompared (F : Nat → Nat → Int32) (w0 w1 w2 w3 w4 w5 w6 w7 w8 w9 w10 w11 w12 w13 w14 w15 w16 : Int32) : (zuf (zuf (zuf (zuf (zuf (zuf (zuf (zuf (zuf (zuf (zuf (zuf (zuf (zuf (zuf (zuf (zuf F 64 7 w0) 64 9 w1) 64 10 w2) 64 11 w3) 64 12 w4) 64 13 w5) 64 7 w6) 64 7 w7) 64 9 w8) 64 10 w9) 64 11 w10) 64 12 w11) 64 13 w12) 64 12 w13) 64 11 w14) 64 12 w15) 64 13 w16) = (zuf (zuf (zuf (zuf (zuf (zuf F 64 7 w7) 64 9 w8) 64 10 w9) 64 11 w14) 64 12 w15) 64 13 w16) := zufk_ix F [((64, 7), w0), ((64, 9), w1), ((64, 10), w2), ((64, 11), w3), ((64, 12), w4), ((64, 13), w5), ((64, 7), w6), ((64, 7), w7), ((64, 9), w8), ((64, 10), w9), ((64, 11), w10), ((64, 12), w11), ((64, 13), w12), ((64, 12), w13), ((64, 11), w14), ((64, 12), w15), ((64, 13), w16)] [((64, 7), some 7), ((64, 9), some 8), ((64, 10), some 9), ((64, 11), some 14), ((64, 12), some 15), ((64, 13), some 16)] rfl
theorem hA2_md_readsCompared (F : Nat → Nat → Int32) (w0 w1 w2 w3 w4 w5 : Nat → Int32) : (zua (zua (zua (zua (zua (zua F 71 w0) 72 w1) 71 w2) 72 w3) 71 w4) 71 w5) = (zua (zua F 71 w5) 72 w3) := zuak_ix F [(71, w0), (72, w1), (71, w2), (72, w3), (71, w4), (71, w5)] [(71, some 5), (72, some 3)] rfl
theorem hF1_md_readsCompared (F : Nat → Nat → Int32) (w0 w1 w2 w3 w4 w5 w6 : Int32) : (zuf (zuf (zuf (zuf (zuf (zuf (zuf F 64 7 w0) 64 9 w1) 64 10 w2) 64 11 w3) 64 12 w4) 64 13 w5) 64 9 w6) = (zuf (zuf (zuf (zuf (zuf (zuf F 64 7 w0) 64 9 w6) 64 10 w2) 64 11 w3) 64 12 w4) 64 13 w5) := zufk_ix F [((64, 7), w0), ((64, 9), w1), ((64, 10), w2), ((64, 11), w3), ((64, 12), w4), ((64, 13), w5), ((64, 9), w6)] [((64, 7), some 0), ((64, 9), some 6), ((64, 10), some 2), ((64, 11), some 3), ((64, 12), some 4), ((64, 13), some 5)] rfl
theorem hA0_md_readsCompared (F : Nat → Nat → Int32) (w0 w1 : Nat → Int32) : (zua (zua F 71 w0) 72 w1) = (zua (zua F 71 w0) 72 w1) := zuak_ix F [(71, w0), (72, w1)] [(71, some 0), (72, some 1)] rfl
def O_md_readsCompared (ar fi : Nat → Nat → Int32) (m1 : Nat) (m2 : Nat) (m3 : Nat) (m4 : Nat) (m5 : Nat) (t : T_md_readsCompared) : zO2 := match t with
  | (t0, t1, t2, t3, t4, t5, t6, t7, t8) => (some (.int (t0)), ((zua (zua ar 71 t1) 72 t2), (zuf (zuf (zuf (zuf (zuf (zuf fi 64 7 t3) 64 9 t4) 64 10 t5) 64 11 t6) 64 12 t7) 64 13 t8), (m1, m2, m3, m4, m5)))
set_option maxRecDepth 1000000 in
theorem t_md_readsCompared {X : Nat × (Nat → Int32)} {ar fi : Nat → Nat → Int32} {m1 m2 m3 m4 m5 : Nat} {Q_md_readsSum : (Nat → Int32) → (Nat → Int32) → (Nat → Int32) → Int32 → Int32 → Int32 → Int32 → Int32 → Int32 → Int32 → Option (Int32 × (Nat → Int32) × (Nat → Int32) × Int32 × Int32 × Int32 × Int32 × Int32 × Int32)} {G_md_here : Int32 → Int32 → (Nat → Int32) → Bool} {W_md_here : Int32 → Int32 → (Nat → Int32) → Int32} {W_md_wrongAt : Int32 → Int32 → Int32} {F0_md_wrongAt : Int32 → Int32 → Int32} {G_md_notes : Int32 → Int32 → Int32 → (Nat → Int32) → Bool} {A0_md_notes : Int32 → Int32 → Int32 → (Nat → Int32) → Nat → Int32} {F0_md_notes : Int32 → Int32 → Int32 → (Nat → Int32) → Int32} {Q_md_endsPiece : (Nat → Int32) → (Nat → Int32) → Int32 → Int32 → Int32 → Option ((Nat → Int32) × Int32 × Int32 × Int32)} : zseg X zFT (zEx 171 (P_md_readsSum Q_md_readsSum) (zEx 158 (P_md_here G_md_here W_md_here) (zEx 160 (P_md_wrongAt W_md_wrongAt F0_md_wrongAt) (zEx 163 (P_md_notes G_md_notes A0_md_notes F0_md_notes) (zEx 172 (P_md_endsPiece Q_md_endsPiece) zE0))))) zc_175 (fun p => false) 400 0 [.ref 64] [] (ar, fi, (m1, m2, m3, m4, m5)) = (
  zl (Q_md_readsSum (ar 70) (ar 71) (ar 72) (fi 64 7) (fi 64 8) (fi 64 9) (fi 64 10) (fi 64 11) (fi 64 12) (fi 64 13)) (fun v1 => zg v1.isSome (
  bif !decide (((zgt v1).1) = 0) then
   zg (G_md_here (fi 64 8) (((zgt v1).2.2.2.1)) (ar 70)) (
   zl (W_md_here (fi 64 8) (((zgt v1).2.2.2.1)) (ar 70)) (fun v2 =>
   bif !decide (v2 = 60) then
    zg (G_md_here (fi 64 8) (((zgt v1).2.2.2.1)) (ar 70)) (
    zl (W_md_here (fi 64 8) (((zgt v1).2.2.2.1)) (ar 70)) (fun v3 =>
    bif !decide (v3 = 62) then
     zg (G_md_here (fi 64 8) (((zgt v1).2.2.2.1)) (ar 70)) (
     zl (W_md_here (fi 64 8) (((zgt v1).2.2.2.1)) (ar 70)) (fun v4 =>
     bif !decide (v4 = 61) then
      zl (W_md_wrongAt 1 (((zgt v1).2.2.2.1))) (fun v5 =>
      zl (F0_md_wrongAt 1 (((zgt v1).2.2.2.1))) (fun v6 =>
      zg (Nat.beq 1 0 || (decide (v5 = 0) || decide (v5 = 1))) (
      some (.inr (some (.int v5), ((zua (zua ar 71 (((zgt v1).2.1))) 72 (((zgt v1).2.2.1))), (zuf (zuf (zuf (zuf (zuf (zuf (zuf fi 64 7 (((zgt v1).2.2.2.1))) 64 9 (((zgt v1).2.2.2.2.1))) 64 10 (((zgt v1).2.2.2.2.2.1))) 64 11 (((zgt v1).2.2.2.2.2.2.1))) 64 12 (((zgt v1).2.2.2.2.2.2.2.1))) 64 13 (((zgt v1).2.2.2.2.2.2.2.2))) 64 9 v6), (m1, m2, m3, m4, m5)))))))
     else
      zl (Q_md_readsSum (ar 70) (((zgt v1).2.1)) (((zgt v1).2.2.1)) ((((zgt v1).2.2.2.1)) + 1) (fi 64 8) (((zgt v1).2.2.2.2.1)) (((zgt v1).2.2.2.2.2.1)) (((zgt v1).2.2.2.2.2.2.1)) (((zgt v1).2.2.2.2.2.2.2.1)) (((zgt v1).2.2.2.2.2.2.2.2))) (fun v7 => zg v7.isSome (
      bif !decide (((zgt v7).1) = 0) then
       zg (G_md_notes 9 0 (((zgt v7).2.2.2.2.2.2.2.1)) (((zgt v7).2.1))) (
       zl (A0_md_notes 9 0 (((zgt v7).2.2.2.2.2.2.2.1)) (((zgt v7).2.1))) (fun v8 =>
       zl (F0_md_notes 9 0 (((zgt v7).2.2.2.2.2.2.2.1)) (((zgt v7).2.1))) (fun v9 =>
       zl (Q_md_endsPiece v8 (((zgt v7).2.2.1)) (((zgt v7).2.2.2.2.2.2.1)) v9 (((zgt v7).2.2.2.2.2.2.2.2))) (fun v10 => zg v10.isSome (
       some (.inr (some (.int 1), ((zua (zua (zua (zua (zua (zua ar 71 (((zgt v1).2.1))) 72 (((zgt v1).2.2.1))) 71 (((zgt v7).2.1))) 72 (((zgt v7).2.2.1))) 71 v8) 71 (((zgt v10).1))), (zuf (zuf (zuf (zuf (zuf (zuf (zuf (zuf (zuf (zuf (zuf (zuf (zuf (zuf (zuf (zuf (zuf fi 64 7 (((zgt v1).2.2.2.1))) 64 9 (((zgt v1).2.2.2.2.1))) 64 10 (((zgt v1).2.2.2.2.2.1))) 64 11 (((zgt v1).2.2.2.2.2.2.1))) 64 12 (((zgt v1).2.2.2.2.2.2.2.1))) 64 13 (((zgt v1).2.2.2.2.2.2.2.2))) 64 7 ((((zgt v1).2.2.2.1)) + 1)) 64 7 (((zgt v7).2.2.2.1))) 64 9 (((zgt v7).2.2.2.2.1))) 64 10 (((zgt v7).2.2.2.2.2.1))) 64 11 (((zgt v7).2.2.2.2.2.2.1))) 64 12 (((zgt v7).2.2.2.2.2.2.2.1))) 64 13 (((zgt v7).2.2.2.2.2.2.2.2))) 64 12 v9) 64 11 (((zgt v10).2.1))) 64 12 (((zgt v10).2.2.1))) 64 13 (((zgt v10).2.2.2))), (m1, m2, m3, m4, m5)))))))))
      else
       some (.inr (some (.int 0), ((zua (zua (zua (zua ar 71 (((zgt v1).2.1))) 72 (((zgt v1).2.2.1))) 71 (((zgt v7).2.1))) 72 (((zgt v7).2.2.1))), (zuf (zuf (zuf (zuf (zuf (zuf (zuf (zuf (zuf (zuf (zuf (zuf (zuf fi 64 7 (((zgt v1).2.2.2.1))) 64 9 (((zgt v1).2.2.2.2.1))) 64 10 (((zgt v1).2.2.2.2.2.1))) 64 11 (((zgt v1).2.2.2.2.2.2.1))) 64 12 (((zgt v1).2.2.2.2.2.2.2.1))) 64 13 (((zgt v1).2.2.2.2.2.2.2.2))) 64 7 ((((zgt v1).2.2.2.1)) + 1)) 64 7 (((zgt v7).2.2.2.1))) 64 9 (((zgt v7).2.2.2.2.1))) 64 10 (((zgt v7).2.2.2.2.2.1))) 64 11 (((zgt v7).2.2.2.2.2.2.1))) 64 12 (((zgt v7).2.2.2.2.2.2.2.1))) 64 13 (((zgt v7).2.2.2.2.2.2.2.2))), (m1, m2, m3, m4, m5))))))))
    else
     zl (Q_md_readsSum (ar 70) (((zgt v1).2.1)) (((zgt v1).2.2.1)) ((((zgt v1).2.2.2.1)) + 1) (fi 64 8) (((zgt v1).2.2.2.2.1)) (((zgt v1).2.2.2.2.2.1)) (((zgt v1).2.2.2.2.2.2.1)) (((zgt v1).2.2.2.2.2.2.2.1)) (((zgt v1).2.2.2.2.2.2.2.2))) (fun v11 => zg v11.isSome (
     bif !decide (((zgt v11).1) = 0) then
      zg (G_md_notes 8 0 (((zgt v11).2.2.2.2.2.2.2.1)) (((zgt v11).2.1))) (
      zl (A0_md_notes 8 0 (((zgt v11).2.2.2.2.2.2.2.1)) (((zgt v11).2.1))) (fun v12 =>
      zl (F0_md_notes 8 0 (((zgt v11).2.2.2.2.2.2.2.1)) (((zgt v11).2.1))) (fun v13 =>
      zl (Q_md_endsPiece v12 (((zgt v11).2.2.1)) (((zgt v11).2.2.2.2.2.2.1)) v13 (((zgt v11).2.2.2.2.2.2.2.2))) (fun v14 => zg v14.isSome (
      some (.inr (some (.int 1), ((zua (zua (zua (zua (zua (zua ar 71 (((zgt v1).2.1))) 72 (((zgt v1).2.2.1))) 71 (((zgt v11).2.1))) 72 (((zgt v11).2.2.1))) 71 v12) 71 (((zgt v14).1))), (zuf (zuf (zuf (zuf (zuf (zuf (zuf (zuf (zuf (zuf (zuf (zuf (zuf (zuf (zuf (zuf (zuf fi 64 7 (((zgt v1).2.2.2.1))) 64 9 (((zgt v1).2.2.2.2.1))) 64 10 (((zgt v1).2.2.2.2.2.1))) 64 11 (((zgt v1).2.2.2.2.2.2.1))) 64 12 (((zgt v1).2.2.2.2.2.2.2.1))) 64 13 (((zgt v1).2.2.2.2.2.2.2.2))) 64 7 ((((zgt v1).2.2.2.1)) + 1)) 64 7 (((zgt v11).2.2.2.1))) 64 9 (((zgt v11).2.2.2.2.1))) 64 10 (((zgt v11).2.2.2.2.2.1))) 64 11 (((zgt v11).2.2.2.2.2.2.1))) 64 12 (((zgt v11).2.2.2.2.2.2.2.1))) 64 13 (((zgt v11).2.2.2.2.2.2.2.2))) 64 12 v13) 64 11 (((zgt v14).2.1))) 64 12 (((zgt v14).2.2.1))) 64 13 (((zgt v14).2.2.2))), (m1, m2, m3, m4, m5)))))))))
     else
      some (.inr (some (.int 0), ((zua (zua (zua (zua ar 71 (((zgt v1).2.1))) 72 (((zgt v1).2.2.1))) 71 (((zgt v11).2.1))) 72 (((zgt v11).2.2.1))), (zuf (zuf (zuf (zuf (zuf (zuf (zuf (zuf (zuf (zuf (zuf (zuf (zuf fi 64 7 (((zgt v1).2.2.2.1))) 64 9 (((zgt v1).2.2.2.2.1))) 64 10 (((zgt v1).2.2.2.2.2.1))) 64 11 (((zgt v1).2.2.2.2.2.2.1))) 64 12 (((zgt v1).2.2.2.2.2.2.2.1))) 64 13 (((zgt v1).2.2.2.2.2.2.2.2))) 64 7 ((((zgt v1).2.2.2.1)) + 1)) 64 7 (((zgt v11).2.2.2.1))) 64 9 (((zgt v11).2.2.2.2.1))) 64 10 (((zgt v11).2.2.2.2.2.1))) 64 11 (((zgt v11).2.2.2.2.2.2.1))) 64 12 (((zgt v11).2.2.2.2.2.2.2.1))) 64 13 (((zgt v11).2.2.2.2.2.2.2.2))), (m1, m2, m3, m4, m5))))))))
   else
    zl (Q_md_readsSum (ar 70) (((zgt v1).2.1)) (((zgt v1).2.2.1)) ((((zgt v1).2.2.2.1)) + 1) (fi 64 8) (((zgt v1).2.2.2.2.1)) (((zgt v1).2.2.2.2.2.1)) (((zgt v1).2.2.2.2.2.2.1)) (((zgt v1).2.2.2.2.2.2.2.1)) (((zgt v1).2.2.2.2.2.2.2.2))) (fun v15 => zg v15.isSome (
    bif !decide (((zgt v15).1) = 0) then
     zg (G_md_notes 7 0 (((zgt v15).2.2.2.2.2.2.2.1)) (((zgt v15).2.1))) (
     zl (A0_md_notes 7 0 (((zgt v15).2.2.2.2.2.2.2.1)) (((zgt v15).2.1))) (fun v16 =>
     zl (F0_md_notes 7 0 (((zgt v15).2.2.2.2.2.2.2.1)) (((zgt v15).2.1))) (fun v17 =>
     zl (Q_md_endsPiece v16 (((zgt v15).2.2.1)) (((zgt v15).2.2.2.2.2.2.1)) v17 (((zgt v15).2.2.2.2.2.2.2.2))) (fun v18 => zg v18.isSome (
     some (.inr (some (.int 1), ((zua (zua (zua (zua (zua (zua ar 71 (((zgt v1).2.1))) 72 (((zgt v1).2.2.1))) 71 (((zgt v15).2.1))) 72 (((zgt v15).2.2.1))) 71 v16) 71 (((zgt v18).1))), (zuf (zuf (zuf (zuf (zuf (zuf (zuf (zuf (zuf (zuf (zuf (zuf (zuf (zuf (zuf (zuf (zuf fi 64 7 (((zgt v1).2.2.2.1))) 64 9 (((zgt v1).2.2.2.2.1))) 64 10 (((zgt v1).2.2.2.2.2.1))) 64 11 (((zgt v1).2.2.2.2.2.2.1))) 64 12 (((zgt v1).2.2.2.2.2.2.2.1))) 64 13 (((zgt v1).2.2.2.2.2.2.2.2))) 64 7 ((((zgt v1).2.2.2.1)) + 1)) 64 7 (((zgt v15).2.2.2.1))) 64 9 (((zgt v15).2.2.2.2.1))) 64 10 (((zgt v15).2.2.2.2.2.1))) 64 11 (((zgt v15).2.2.2.2.2.2.1))) 64 12 (((zgt v15).2.2.2.2.2.2.2.1))) 64 13 (((zgt v15).2.2.2.2.2.2.2.2))) 64 12 v17) 64 11 (((zgt v18).2.1))) 64 12 (((zgt v18).2.2.1))) 64 13 (((zgt v18).2.2.2))), (m1, m2, m3, m4, m5)))))))))
    else
     some (.inr (some (.int 0), ((zua (zua (zua (zua ar 71 (((zgt v1).2.1))) 72 (((zgt v1).2.2.1))) 71 (((zgt v15).2.1))) 72 (((zgt v15).2.2.1))), (zuf (zuf (zuf (zuf (zuf (zuf (zuf (zuf (zuf (zuf (zuf (zuf (zuf fi 64 7 (((zgt v1).2.2.2.1))) 64 9 (((zgt v1).2.2.2.2.1))) 64 10 (((zgt v1).2.2.2.2.2.1))) 64 11 (((zgt v1).2.2.2.2.2.2.1))) 64 12 (((zgt v1).2.2.2.2.2.2.2.1))) 64 13 (((zgt v1).2.2.2.2.2.2.2.2))) 64 7 ((((zgt v1).2.2.2.1)) + 1)) 64 7 (((zgt v15).2.2.2.1))) 64 9 (((zgt v15).2.2.2.2.1))) 64 10 (((zgt v15).2.2.2.2.2.1))) 64 11 (((zgt v15).2.2.2.2.2.2.1))) 64 12 (((zgt v15).2.2.2.2.2.2.2.1))) 64 13 (((zgt v15).2.2.2.2.2.2.2.2))), (m1, m2, m3, m4, m5))))))))
  else
   some (.inr (some (.int 0), ((zua (zua ar 71 (((zgt v1).2.1))) 72 (((zgt v1).2.2.1))), (zuf (zuf (zuf (zuf (zuf (zuf fi 64 7 (((zgt v1).2.2.2.1))) 64 9 (((zgt v1).2.2.2.2.1))) 64 10 (((zgt v1).2.2.2.2.2.1))) 64 11 (((zgt v1).2.2.2.2.2.2.1))) 64 12 (((zgt v1).2.2.2.2.2.2.2.1))) 64 13 (((zgt v1).2.2.2.2.2.2.2.2))), (m1, m2, m3, m4, m5)))))) : Option ((Nat × List Value × List Value × zH2) ⊕ zO2)) := by with_unfolding_all rfl
set_option maxRecDepth 20000 in
theorem e_md_readsCompared {X : Nat × (Nat → Int32)} {ar fi : Nat → Nat → Int32} {m1 m2 m3 m4 m5 : Nat} {o : zO2} : ∀ (q : T_md_readsCompared), q_md_readsCompared (ar 70) (ar 71) (ar 72) (fi 64 7) (fi 64 8) (fi 64 9) (fi 64 10) (fi 64 11) (fi 64 12) (fi 64 13) = some q → (fun t => O_md_readsCompared ar fi m1 m2 m3 m4 m5 t = o) q → zR2 X zFT (zEx 171 S_md_readsSum (zEx 158 S_md_here (zEx 160 S_md_wrongAt (zEx 163 S_md_notes (zEx 172 S_md_endsPiece zE0))))) zc_175 0 [.ref 64] [] (ar, fi, (m1, m2, m3, m4, m5)) o := by
  intro q h hq
  unfold q_md_readsCompared at h
  refine zT_seg t_md_readsCompared ?_
  obtain ⟨TT, hTT⟩ : ∃ T, T = zT X zFT (zEx 171 S_md_readsSum (zEx 158 S_md_here (zEx 160 S_md_wrongAt (zEx 163 S_md_notes (zEx 172 S_md_endsPiece zE0))))) zc_175 o := ⟨_, rfl⟩
  rw [← hTT]
  refine zbd_el h (fun v1 hv h => zU_c hTT hv ?_)
  refine zb_el h (fun hb h => zU_t hTT hb ?_) (fun hb h => zU_f hTT hb ?_)
  · refine zg_el h (fun hg h => zU_g hTT hg ?_)
    refine zl_el h (fun h => zU_l hTT ?_)
    refine zb_el h (fun hb h => zU_t hTT hb ?_) (fun hb h => zU_f hTT hb ?_)
    · refine zg_el h (fun hg h => zU_g hTT hg ?_)
      refine zl_el h (fun h => zU_l hTT ?_)
      refine zb_el h (fun hb h => zU_t hTT hb ?_) (fun hb h => zU_f hTT hb ?_)
      · refine zg_el h (fun hg h => zU_g hTT hg ?_)
        refine zl_el h (fun h => zU_l hTT ?_)
        refine zb_el h (fun hb h => zU_t hTT hb ?_) (fun hb h => zU_f hTT hb ?_)
        · refine zl_el h (fun h => zU_l hTT ?_)
          refine zl_el h (fun h => zU_l hTT ?_)
          refine zg_el h (fun hg h => zU_gr hTT hg ?_)
          rw [hTT]
          have hz := zsi (P := (fun t => O_md_readsCompared ar fi m1 m2 m3 m4 m5 t = o)) h hq
          refine (zO_mk ?_ ?_).trans hz
          · first | with_reducible rfl | exact hA0_md_readsCompared _ _ _
          · first | with_reducible rfl | exact hF1_md_readsCompared _ _ _ _ _ _ _ _
        · refine zbd_el h (fun v7 hv h => zU_c hTT hv ?_)
          refine zb_el h (fun hb h => zU_t hTT hb ?_) (fun hb h => zU_f hTT hb ?_)
          · refine zg_el h (fun hg h => zU_g hTT hg ?_)
            refine zl_el h (fun h => zU_l hTT ?_)
            refine zl_el h (fun h => zU_l hTT ?_)
            refine zbd_el h (fun v10 hv h => zU_c hTT hv ?_)
            rw [hTT]
            have hz := zsi (P := (fun t => O_md_readsCompared ar fi m1 m2 m3 m4 m5 t = o)) h hq
            refine (zO_mk ?_ ?_).trans hz
            · first | with_reducible rfl | exact hA2_md_readsCompared _ _ _ _ _ _ _
            · first | with_reducible rfl | exact hF3_md_readsCompared _ _ _ _ _ _ _ _ _ _ _ _ _ _ _ _ _ _
          · rw [hTT]
            have hz := zsi (P := (fun t => O_md_readsCompared ar fi m1 m2 m3 m4 m5 t = o)) h hq
            refine (zO_mk ?_ ?_).trans hz
            · first | with_reducible rfl | exact hA4_md_readsCompared _ _ _ _ _
            · first | with_reducible rfl | exact hF5_md_readsCompared _ _ _ _ _ _ _ _ _ _ _ _ _ _
      · refine zbd_el h (fun v11 hv h => zU_c hTT hv ?_)
        refine zb_el h (fun hb h => zU_t hTT hb ?_) (fun hb h => zU_f hTT hb ?_)
        · refine zg_el h (fun hg h => zU_g hTT hg ?_)
          refine zl_el h (fun h => zU_l hTT ?_)
          refine zl_el h (fun h => zU_l hTT ?_)
          refine zbd_el h (fun v14 hv h => zU_c hTT hv ?_)
          rw [hTT]
          have hz := zsi (P := (fun t => O_md_readsCompared ar fi m1 m2 m3 m4 m5 t = o)) h hq
          refine (zO_mk ?_ ?_).trans hz
          · first | with_reducible rfl | exact hA2_md_readsCompared _ _ _ _ _ _ _
          · first | with_reducible rfl | exact hF3_md_readsCompared _ _ _ _ _ _ _ _ _ _ _ _ _ _ _ _ _ _
        · rw [hTT]
          have hz := zsi (P := (fun t => O_md_readsCompared ar fi m1 m2 m3 m4 m5 t = o)) h hq
          refine (zO_mk ?_ ?_).trans hz
          · first | with_reducible rfl | exact hA4_md_readsCompared _ _ _ _ _
          · first | with_reducible rfl | exact hF5_md_readsCompared _ _ _ _ _ _ _ _ _ _ _ _ _ _
    · refine zbd_el h (fun v15 hv h => zU_c hTT hv ?_)
      refine zb_el h (fun hb h => zU_t hTT hb ?_) (fun hb h => zU_f hTT hb ?_)
      · refine zg_el h (fun hg h => zU_g hTT hg ?_)
        refine zl_el h (fun h => zU_l hTT ?_)
        refine zl_el h (fun h => zU_l hTT ?_)
        refine zbd_el h (fun v18 hv h => zU_c hTT hv ?_)
        rw [hTT]
        have hz := zsi (P := (fun t => O_md_readsCompared ar fi m1 m2 m3 m4 m5 t = o)) h hq
        refine (zO_mk ?_ ?_).trans hz
        · first | with_reducible rfl | exact hA2_md_readsCompared _ _ _ _ _ _ _
        · first | with_reducible rfl | exact hF3_md_readsCompared _ _ _ _ _ _ _ _ _ _ _ _ _ _ _ _ _ _
      · rw [hTT]
        have hz := zsi (P := (fun t => O_md_readsCompared ar fi m1 m2 m3 m4 m5 t = o)) h hq
        refine (zO_mk ?_ ?_).trans hz
        · first | with_reducible rfl | exact hA4_md_readsCompared _ _ _ _ _
        · first | with_reducible rfl | exact hF5_md_readsCompared _ _ _ _ _ _ _ _ _ _ _ _ _ _
  · rw [hTT]
    have hz := zsi (P := (fun t => O_md_readsCompared ar fi m1 m2 m3 m4 m5 t = o)) h hq
    refine (zO_mk ?_ ?_).trans hz
    · first | with_reducible rfl | exact hA0_md_readsCompared _ _ _
    · first | with_reducible rfl | exact hF6_md_readsCompared _ _ _ _ _ _ _
theorem ok_md_readsCompared (X : Nat × (Nat → Int32)) : zOkS X 175 S_md_readsCompared 6 := zOkS_new (zOkE_cons (ok_md_readsSum X) (by decide) (zOkE_cons (ok_md_here X) (by decide) (zOkE_cons (ok_md_wrongAt X) (by decide) (zOkE_cons (ok_md_notes X) (by decide) (zOkE_cons (ok_md_endsPiece X) (by decide) (zOkE_nil X 5)))))) (by
  intro args g o h
  obtain ⟨ar, fi, m1, m2, m3, m4, m5⟩ := g
  unfold S_md_readsCompared P_md_readsCompared at h
  split at h
  · refine zb_el h (fun hI0 k0 => ?_) (fun _ h10 => ?_)
    · try simp only [Bool.and_eq_true] at hI0
      have j0 := hI0
      have e0 := Nat.eq_of_beq_eq_true j0
      subst e0
      exact zpe_el k0 (fun t ht ho => by obtain ⟨t0, t1, t2, t3, t4, t5, t6, t7, t8⟩ := t; exact e_md_readsCompared _ ht ho)
    · cases h10
  · cases h)
