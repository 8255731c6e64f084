abbrev T_lr_readFactor : Type := (Nat → Int32) × (Nat → Int32) × Int32 × Int32 × Int32 × Int32 × Int32
noncomputable def qG_lr_readFactor (Q_lr_readCondition : Int32 → (Nat → Int32) → (Nat → Int32) → (Nat → Int32) → Int32 → Int32 → Int32 → Int32 → Int32 → Int32 → Option ((Nat → Int32) × (Nat → Int32) × Int32 × Int32 × Int32 × Int32 × Int32)) (Q_lr_readTest : Int32 → (Nat → Int32) → (Nat → Int32) → (Nat → Int32) → Int32 → Int32 → Int32 → Int32 → Int32 → Int32 → Option ((Nat → Int32) × (Nat → Int32) × Int32 × Int32 × Int32 × Int32 × Int32)) (Q_lr_readAmount : Int32 → (Nat → Int32) → (Nat → Int32) → (Nat → Int32) → Int32 → Int32 → Int32 → Int32 → Int32 → Int32 → Option ((Nat → Int32) × (Nat → Int32) × Int32 × Int32 × Int32 × Int32 × Int32)) (Q_lr_readFactor : Int32 → (Nat → Int32) → (Nat → Int32) → (Nat → Int32) → Int32 → Int32 → Int32 → Int32 → Int32 → Int32 → Option ((Nat → Int32) × (Nat → Int32) × Int32 × Int32 × Int32 × Int32 × Int32)) (y : Int32) (a1 : Nat → Int32) (a24 : Nat → Int32) (a25 : Nat → Int32) (f23_7 : Int32) (f23_8 : Int32) (f40_1 : Int32) (f40_2 : Int32) (f40_3 : Int32) (f40_4 : Int32) : Option T_lr_readFactor :=
  zg (g_tx_sign (f40_2) (f40_4) (f40_1) a1) (
  zl (w_tx_sign (f40_2) (f40_4) (f40_1) a1) (fun v1 =>
  bif !decide (v1 = 91) then
   zg (g_tx_isDigit (f40_2) (f40_4) (f40_1) a1) (
   zl (w_tx_isDigit (f40_2) (f40_4) (f40_1) a1) (fun v2 =>
   bif decide (v2 = 0) then
    bif decide (0 ≤ v1) then
     bif decide (0 ≤ zix ((Int32.toUInt32 v1 % 65536).toInt32)) then
      zg (g_lw_emit 2 (zix ((Int32.toUInt32 v1 % 65536).toInt32)) (f23_7) a24 a25 (f23_8)) (
      zl (w_lw_emit 2 (zix ((Int32.toUInt32 v1 % 65536).toInt32)) (f23_7) a24 a25 (f23_8)) (fun v3 =>
      zl (a0_lw_emit 2 (zix ((Int32.toUInt32 v1 % 65536).toInt32)) (f23_7) a24 a25 (f23_8)) (fun v4 =>
      zl (a1_lw_emit 2 (zix ((Int32.toUInt32 v1 % 65536).toInt32)) (f23_7) a24 a25 (f23_8)) (fun v5 =>
      zl (f0_lw_emit 2 (zix ((Int32.toUInt32 v1 % 65536).toInt32)) (f23_7) a24 a25 (f23_8)) (fun v6 =>
      zl (f1_lw_emit 2 (zix ((Int32.toUInt32 v1 % 65536).toInt32)) (f23_7) a24 a25 (f23_8)) (fun v7 =>
      zl (f0_tx_skip (f40_4)) (fun v8 =>
      some (v4, v5, v6, v7, f40_2, f40_3, v8))))))))
     else
      zl (f0_tx_fail 1 (f40_4) (f40_2) (f40_3)) (fun v9 =>
      zl (f1_tx_fail 1 (f40_4) (f40_2) (f40_3)) (fun v10 =>
      some (a24, a25, f23_7, f23_8, v9, v10, f40_4)))
    else
     zl (f0_tx_fail 1 (f40_4) (f40_2) (f40_3)) (fun v11 =>
     zl (f1_tx_fail 1 (f40_4) (f40_2) (f40_3)) (fun v12 =>
     some (a24, a25, f23_7, f23_8, v11, v12, f40_4)))
   else
    zbd (q_tx_number 5 a1 (f40_1) (f40_2) (f40_3) (f40_4)) (fun v13 =>
    zg (g_lw_emit 1 ((v13.1)) (f23_7) a24 a25 (f23_8)) (
    zl (w_lw_emit 1 ((v13.1)) (f23_7) a24 a25 (f23_8)) (fun v14 =>
    zl (a0_lw_emit 1 ((v13.1)) (f23_7) a24 a25 (f23_8)) (fun v15 =>
    zl (a1_lw_emit 1 ((v13.1)) (f23_7) a24 a25 (f23_8)) (fun v16 =>
    zl (f0_lw_emit 1 ((v13.1)) (f23_7) a24 a25 (f23_8)) (fun v17 =>
    zl (f1_lw_emit 1 ((v13.1)) (f23_7) a24 a25 (f23_8)) (fun v18 =>
    some (v15, v16, v17, v18, (v13.2.1), (v13.2.2.1), (v13.2.2.2)))))))))))
  else
   bif decide (y < 6) then
    zl (f0_tx_skip (f40_4)) (fun v19 =>
    zbd (Q_lr_readAmount (y + 1) a1 a24 a25 (f23_7) (f23_8) (f40_1) (f40_2) (f40_3) v19) (fun v20 =>
    zg (g_tx_expect 93 ((v20.2.2.2.2.1)) ((v20.2.2.2.2.2.2)) (f40_1) a1 ((v20.2.2.2.2.2.1))) (
    zl (f0_tx_expect 93 ((v20.2.2.2.2.1)) ((v20.2.2.2.2.2.2)) (f40_1) a1 ((v20.2.2.2.2.2.1))) (fun v21 =>
    zl (f1_tx_expect 93 ((v20.2.2.2.2.1)) ((v20.2.2.2.2.2.2)) (f40_1) a1 ((v20.2.2.2.2.2.1))) (fun v22 =>
    zl (f2_tx_expect 93 ((v20.2.2.2.2.1)) ((v20.2.2.2.2.2.2)) (f40_1) a1 ((v20.2.2.2.2.2.1))) (fun v23 =>
    some (((v20.1)), ((v20.2.1)), (v20.2.2.1), (v20.2.2.2.1), v21, v22, v23)))))))
   else
    zl (f0_tx_fail 5 (f40_4) (f40_2) (f40_3)) (fun v24 =>
    zl (f1_tx_fail 5 (f40_4) (f40_2) (f40_3)) (fun v25 =>
    some (a24, a25, f23_7, f23_8, v24, v25, f40_4)))))
theorem hF11_lr_readFactor (F : Nat → Nat → Int32) (w0 w1 w2 w3 w4 w5 w6 w7 w8 : Int32) : (zuf (zuf (zuf (zuf (zuf (zuf (zuf (zuf (zuf F 40 4 w0) 31 7 w1) 31 8 w2) 40 2 w3) 40 3 w4) 40 4 w5) 40 2 w6) 40 3 w7) 40 4 w8) = (zuf (zuf (zuf (zuf (zuf F 31 7 w1) 31 8 w2) 40 2 w6) 40 3 w7) 40 4 w8) := zufk_ix F [((40, 4), w0), ((31, 7), w1), ((31, 8), w2), ((40, 2), w3), ((40, 3), w4), ((40, 4), w5), ((40, 2), w6), ((40, 3), w7), ((40, 4), w8)] [((31, 7), some 1), ((31, 8), some 2), ((40, 2), some 6), ((40, 3), some 7), ((40, 4), some 8)] rfl
theorem hF10_lr_readFactor (F : Nat → Nat → Int32) (w0 w1 w2 w3 w4 : Int32) : (zuf (zuf (zuf (zuf (zuf F 40 2 w0) 40 3 w1) 40 4 w2) 31 7 w3) 31 8 w4) = (zuf (zuf (zuf (zuf (zuf F 31 7 w3) 31 8 w4) 40 2 w0) 40 3 w1) 40 4 w2) := zufk_ix F [((40, 2), w0), ((40, 3), w1), ((40, 4), w2), ((31, 7), w3), ((31, 8), w4)] [((31, 7), some 3), ((31, 8), some 4), ((40, 2), some 0), ((40, 3), some 1), ((40, 4), some 2)] rfl
theorem hF9_lr_readFactor (F : Nat → Nat → Int32) (w0 w1 : Int32) : (zuf (zuf F 40 2 w0) 40 3 w1) = (zuf (zuf (zuf (zuf (zuf F 31 7 (F 31 7)) 31 8 (F 31 8)) 40 2 w0) 40 3 w1) 40 4 (F 40 4)) := zufk_ix F [((40, 2), w0), ((40, 3), w1)] [((31, 7), none), ((31, 8), none), ((40, 2), some 0), ((40, 3), some 1), ((40, 4), none)] rfl
theorem hA8_lr_readFactor (F : Nat → Nat → Int32) : F = (zua (zua F 32 (F 32)) 33 (F 33)) := zuak_ix F [] [(32, none), (33, none)] rfl
theorem hF7_lr_readFactor (F : Nat → Nat → Int32) (w0 w1 w2 : Int32) : (zuf (zuf (zuf F 31 7 w0) 31 8 w1) 40 4 w2) = (zuf (zuf (zuf (zuf (zuf F 31 7 w0) 31 8 w1) 40 2 (F 40 2)) 40 3 (F 40 3)) 40 4 w2) := zufk_ix F [((31, 7), w0), ((31, 8), w1), ((40, 4), w2)] [((31, 7), some 0), ((31, 8), some 1), ((40, 2), none), ((40, 3), none), ((40, 4), some 2)] rfl
theorem hA6_lr_readFactor (F : Nat → Nat → Int32) (w0 w1 : Nat → Int32) : (zua (zua F 32 w0) 33 w1) = (zua (zua F 32 w0) 33 w1) := zuak_ix F [(32, w0), (33, w1)] [(32, some 0), (33, some 1)] rfl
theorem hF5_lr_readFactor (F : Nat → Nat → Int32) (w0 w1 w2 w3 w4 w5 w6 w7 w8 : Int32) : (zuf (zuf (zuf (zuf (zuf (zuf (zuf (zuf (zuf F 40 4 w0) 23 7 w1) 23 8 w2) 40 2 w3) 40 3 w4) 40 4 w5) 40 2 w6) 40 3 w7) 40 4 w8) = (zuf (zuf (zuf (zuf (zuf F 23 7 w1) 23 8 w2) 40 2 w6) 40 3 w7) 40 4 w8) := zufk_ix F [((40, 4), w0), ((23, 7), w1), ((23, 8), w2), ((40, 2), w3), ((40, 3), w4), ((40, 4), w5), ((40, 2), w6), ((40, 3), w7), ((40, 4), w8)] [((23, 7), some 1), ((23, 8), some 2), ((40, 2), some 6), ((40, 3), some 7), ((40, 4), some 8)] rfl
theorem hF4_lr_readFactor (F : Nat → Nat → Int32) (w0 w1 w2 w3 w4 : Int32) : (zuf (zuf (zuf (zuf (zuf F 40 2 w0) 40 3 w1) 40 4 w2) 23 7 w3) 23 8 w4) = (zuf (zuf (zuf (zuf (zuf F 23 7 w3) 23 8 w4) 40 2 w0) 40 3 w1) 40 4 w2) := zufk_ix F [((40, 2), w0), ((40, 3), w1), ((40, 4), w2), ((23, 7), w3), ((23, 8), w4)] [((23, 7), some 3), ((23, 8), some 4), ((40, 2), some 0), ((40, 3), some 1), ((40, 4), some 2)] rfl
theorem hF3_lr_readFactor (F : Nat → Nat → Int32) (w0 w1 : Int32) : (zuf (zuf F 40 2 w0) 40 3 w1) = (zuf (zuf (zuf (zuf (zuf F 23 7 (F 23 7)) 23 8 (F 23 8)) 40 2 w0) 40 3 w1) 40 4 (F 40 4)) := zufk_ix F [((40, 2), w0), ((40, 3), w1)] [((23, 7), none), ((23, 8), none), ((40, 2), some 0), ((40, 3), some 1), ((40, 4), none)] rfl
theorem hA2_lr_readFactor (F : Nat → Nat → Int32) : F = (zua (zua F 24 (F 24)) 25 (F 25)) := zuak_ix F [] [(24, none), (25, none)] rfl
theorem hF1_lr_readFactor (F : Nat → Nat → Int32) (w0 w1 w2 : Int32) : (zuf (zuf (zuf F 23 7 w0) 23 8 w1) 40 4 w2) = (zuf (zuf (zuf (zuf (zuf F 23 7 w0) 23 8 w1) 40 2 (F 40 2)) 40 3 (F 40 3)) 40 4 w2) := zufk_ix F [((23, 7), w0), ((23, 8), w1), ((40, 4), w2)] [((23, 7), some 0), ((23, 8), some 1), ((40, 2), none), ((40, 3), none), ((40, 4), some 2)] rfl
theorem hA0_lr_readFactor (F : Nat → Nat → Int32) (w0 w1 : Nat → Int32) : (zua (zua F 24 w0) 25 w1) = (zua (zua F 24 w0) 25 w1) := zuak_ix F [(24, w0), (25, w1)] [(24, some 0), (25, some 1)] rfl
def O_lr_readFactor_39_23 (ar fi : Nat → Nat → Int32) (m1 : Nat) (m2 : Nat) (m4 : Nat) (m5 : Nat) (t : T_lr_readFactor) : zO2 := match t with
  | (t0, t1, t2, t3, t4, t5, t6) => (none, ((zua (zua ar 24 t0) 25 t1), (zuf (zuf (zuf (zuf (zuf fi 23 7 t2) 23 8 t3) 40 2 t4) 40 3 t5) 40 4 t6), (m1, m2, 1, m4, m5)))
set_option maxRecDepth 1000000 in
theorem t_lr_readFactor_39_23 {X : Nat × (Nat → Int32)} {ar fi : Nat → Nat → Int32} {m1 m2 m4 m5 : Nat} {y : Int32} {G_tx_sign : Int32 → Int32 → Int32 → (Nat → Int32) → Bool} {W_tx_sign : Int32 → Int32 → Int32 → (Nat → Int32) → Int32} {F0_tx_fail : Int32 → Int32 → Int32 → Int32 → Int32} {F1_tx_fail : Int32 → Int32 → Int32 → Int32 → Int32} {F0_tx_skip : Int32 → Int32} {Q_lr_readAmount : Int32 → (Nat → Int32) → (Nat → Int32) → (Nat → Int32) → Int32 → Int32 → Int32 → Int32 → Int32 → Int32 → Option ((Nat → Int32) × (Nat → Int32) × Int32 × Int32 × Int32 × Int32 × Int32)} {G_tx_expect : Int32 → Int32 → Int32 → Int32 → (Nat → Int32) → Int32 → Bool} {F0_tx_expect : Int32 → Int32 → Int32 → Int32 → (Nat → Int32) → Int32 → Int32} {F1_tx_expect : Int32 → Int32 → Int32 → Int32 → (Nat → Int32) → Int32 → Int32} {F2_tx_expect : Int32 → Int32 → Int32 → Int32 → (Nat → Int32) → Int32 → Int32} {G_tx_isDigit : Int32 → Int32 → Int32 → (Nat → Int32) → Bool} {W_tx_isDigit : Int32 → Int32 → Int32 → (Nat → Int32) → Int32} {Q_tx_number : Int32 → (Nat → Int32) → Int32 → Int32 → Int32 → Int32 → Option (Int32 × Int32 × Int32 × Int32)} {G_lw_emit : Int32 → Int32 → Int32 → (Nat → Int32) → (Nat → Int32) → Int32 → Bool} {W_lw_emit : Int32 → Int32 → Int32 → (Nat → Int32) → (Nat → Int32) → Int32 → Int32} {A0_lw_emit : Int32 → Int32 → Int32 → (Nat → Int32) → (Nat → Int32) → Int32 → Nat → Int32} {A1_lw_emit : Int32 → Int32 → Int32 → (Nat → Int32) → (Nat → Int32) → Int32 → Nat → Int32} {F0_lw_emit : Int32 → Int32 → Int32 → (Nat → Int32) → (Nat → Int32) → Int32 → Int32} {F1_lw_emit : Int32 → Int32 → Int32 → (Nat → Int32) → (Nat → Int32) → Int32 → Int32} : zseg X zFT (zEx 93 (P_tx_sign G_tx_sign W_tx_sign) (zEx 97 (P_tx_fail F0_tx_fail F1_tx_fail) (zEx 95 (P_tx_skip F0_tx_skip) (zEx 53 (P_lr_readAmount Q_lr_readAmount) (zEx 96 (P_tx_expect G_tx_expect F0_tx_expect F1_tx_expect F2_tx_expect) (zEx 94 (P_tx_isDigit G_tx_isDigit W_tx_isDigit) (zEx 98 (P_tx_number Q_tx_number) (zEx 40 (P_lw_emit G_lw_emit W_lw_emit A0_lw_emit A1_lw_emit F0_lw_emit F1_lw_emit) zE0)))))))) zc_54 (fun p => false) 400 0 [.ref 39, .ref 23, .int y] [] (ar, fi, (m1, m2, 1, m4, m5)) = (
  zg (G_tx_sign (fi 40 2) (fi 40 4) (fi 40 1) (ar 1)) (
  zl (W_tx_sign (fi 40 2) (fi 40 4) (fi 40 1) (ar 1)) (fun v1 =>
  bif !decide (v1 = 91) then
   zg (G_tx_isDigit (fi 40 2) (fi 40 4) (fi 40 1) (ar 1)) (
   zl (W_tx_isDigit (fi 40 2) (fi 40 4) (fi 40 1) (ar 1)) (fun v2 =>
   bif decide (v2 = 0) then
    bif decide (0 ≤ v1) then
     bif decide (0 ≤ zix ((Int32.toUInt32 v1 % 65536).toInt32)) then
      zg (G_lw_emit 2 (zix ((Int32.toUInt32 v1 % 65536).toInt32)) (fi 23 7) (ar 24) (ar 25) (fi 23 8)) (
      zl (W_lw_emit 2 (zix ((Int32.toUInt32 v1 % 65536).toInt32)) (fi 23 7) (ar 24) (ar 25) (fi 23 8)) (fun v3 =>
      zl (A0_lw_emit 2 (zix ((Int32.toUInt32 v1 % 65536).toInt32)) (fi 23 7) (ar 24) (ar 25) (fi 23 8)) (fun v4 =>
      zl (A1_lw_emit 2 (zix ((Int32.toUInt32 v1 % 65536).toInt32)) (fi 23 7) (ar 24) (ar 25) (fi 23 8)) (fun v5 =>
      zl (F0_lw_emit 2 (zix ((Int32.toUInt32 v1 % 65536).toInt32)) (fi 23 7) (ar 24) (ar 25) (fi 23 8)) (fun v6 =>
      zl (F1_lw_emit 2 (zix ((Int32.toUInt32 v1 % 65536).toInt32)) (fi 23 7) (ar 24) (ar 25) (fi 23 8)) (fun v7 =>
      zl (F0_tx_skip (fi 40 4)) (fun v8 =>
      some (.inr (none, ((zua (zua ar 24 v4) 25 v5), (zuf (zuf (zuf fi 23 7 v6) 23 8 v7) 40 4 v8), (m1, m2, 1, m4, m5)))))))))))
     else
      zl (F0_tx_fail 1 (fi 40 4) (fi 40 2) (fi 40 3)) (fun v9 =>
      zl (F1_tx_fail 1 (fi 40 4) (fi 40 2) (fi 40 3)) (fun v10 =>
      some (.inr (none, (ar, (zuf (zuf fi 40 2 v9) 40 3 v10), (m1, m2, 1, m4, m5))))))
    else
     zl (F0_tx_fail 1 (fi 40 4) (fi 40 2) (fi 40 3)) (fun v11 =>
     zl (F1_tx_fail 1 (fi 40 4) (fi 40 2) (fi 40 3)) (fun v12 =>
     some (.inr (none, (ar, (zuf (zuf fi 40 2 v11) 40 3 v12), (m1, m2, 1, m4, m5))))))
   else
    zl (Q_tx_number 5 (ar 1) (fi 40 1) (fi 40 2) (fi 40 3) (fi 40 4)) (fun v13 => zg v13.isSome (
    zg (G_lw_emit 1 (((zgt v13).1)) (fi 23 7) (ar 24) (ar 25) (fi 23 8)) (
    zl (W_lw_emit 1 (((zgt v13).1)) (fi 23 7) (ar 24) (ar 25) (fi 23 8)) (fun v14 =>
    zl (A0_lw_emit 1 (((zgt v13).1)) (fi 23 7) (ar 24) (ar 25) (fi 23 8)) (fun v15 =>
    zl (A1_lw_emit 1 (((zgt v13).1)) (fi 23 7) (ar 24) (ar 25) (fi 23 8)) (fun v16 =>
    zl (F0_lw_emit 1 (((zgt v13).1)) (fi 23 7) (ar 24) (ar 25) (fi 23 8)) (fun v17 =>
    zl (F1_lw_emit 1 (((zgt v13).1)) (fi 23 7) (ar 24) (ar 25) (fi 23 8)) (fun v18 =>
    some (.inr (none, ((zua (zua ar 24 v15) 25 v16), (zuf (zuf (zuf (zuf (zuf fi 40 2 (((zgt v13).2.1))) 40 3 (((zgt v13).2.2.1))) 40 4 (((zgt v13).2.2.2))) 23 7 v17) 23 8 v18), (m1, m2, 1, m4, m5))))))))))))))
  else
   bif decide (y < 6) then
    zl (F0_tx_skip (fi 40 4)) (fun v19 =>
    zl (Q_lr_readAmount (y + 1) (ar 1) (ar 24) (ar 25) (fi 23 7) (fi 23 8) (fi 40 1) (fi 40 2) (fi 40 3) v19) (fun v20 => zg v20.isSome (
    zg (G_tx_expect 93 (((zgt v20).2.2.2.2.1)) (((zgt v20).2.2.2.2.2.2)) (fi 40 1) (ar 1) (((zgt v20).2.2.2.2.2.1))) (
    zl (F0_tx_expect 93 (((zgt v20).2.2.2.2.1)) (((zgt v20).2.2.2.2.2.2)) (fi 40 1) (ar 1) (((zgt v20).2.2.2.2.2.1))) (fun v21 =>
    zl (F1_tx_expect 93 (((zgt v20).2.2.2.2.1)) (((zgt v20).2.2.2.2.2.2)) (fi 40 1) (ar 1) (((zgt v20).2.2.2.2.2.1))) (fun v22 =>
    zl (F2_tx_expect 93 (((zgt v20).2.2.2.2.1)) (((zgt v20).2.2.2.2.2.2)) (fi 40 1) (ar 1) (((zgt v20).2.2.2.2.2.1))) (fun v23 =>
    some (.inr (none, ((zua (zua ar 24 (((zgt v20).1))) 25 (((zgt v20).2.1))), (zuf (zuf (zuf (zuf (zuf (zuf (zuf (zuf (zuf fi 40 4 v19) 23 7 (((zgt v20).2.2.1))) 23 8 (((zgt v20).2.2.2.1))) 40 2 (((zgt v20).2.2.2.2.1))) 40 3 (((zgt v20).2.2.2.2.2.1))) 40 4 (((zgt v20).2.2.2.2.2.2))) 40 2 v21) 40 3 v22) 40 4 v23), (m1, m2, 1, m4, m5)))))))))))
   else
    zl (F0_tx_fail 5 (fi 40 4) (fi 40 2) (fi 40 3)) (fun v24 =>
    zl (F1_tx_fail 5 (fi 40 4) (fi 40 2) (fi 40 3)) (fun v25 =>
    some (.inr (none, (ar, (zuf (zuf fi 40 2 v24) 40 3 v25), (m1, m2, 1, m4, m5)))))))) : Option ((Nat × List Value × List Value × zH2) ⊕ zO2)) := by with_unfolding_all rfl
set_option maxRecDepth 20000 in
theorem e_lr_readFactor_39_23 {X : Nat × (Nat → Int32)} {ar fi : Nat → Nat → Int32} {m1 m2 m4 m5 : Nat} {y : Int32} {Q_lr_readCondition : Int32 → (Nat → Int32) → (Nat → Int32) → (Nat → Int32) → Int32 → Int32 → Int32 → Int32 → Int32 → Int32 → Option ((Nat → Int32) × (Nat → Int32) × Int32 × Int32 × Int32 × Int32 × Int32)} {Q_lr_readTest : Int32 → (Nat → Int32) → (Nat → Int32) → (Nat → Int32) → Int32 → Int32 → Int32 → Int32 → Int32 → Int32 → Option ((Nat → Int32) × (Nat → Int32) × Int32 × Int32 × Int32 × Int32 × Int32)} {Q_lr_readAmount : Int32 → (Nat → Int32) → (Nat → Int32) → (Nat → Int32) → Int32 → Int32 → Int32 → Int32 → Int32 → Int32 → Option ((Nat → Int32) × (Nat → Int32) × Int32 × Int32 × Int32 × Int32 × Int32)} {Q_lr_readFactor : Int32 → (Nat → Int32) → (Nat → Int32) → (Nat → Int32) → Int32 → Int32 → Int32 → Int32 → Int32 → Int32 → Option ((Nat → Int32) × (Nat → Int32) × Int32 × Int32 × Int32 × Int32 × Int32)} {o : zO2} : ∀ (q : T_lr_readFactor), qG_lr_readFactor Q_lr_readCondition Q_lr_readTest Q_lr_readAmount Q_lr_readFactor y (ar 1) (ar 24) (ar 25) (fi 23 7) (fi 23 8) (fi 40 1) (fi 40 2) (fi 40 3) (fi 40 4) = some q → (fun t => O_lr_readFactor_39_23 ar fi m1 m2 m4 m5 t = o) q → zR2 X zFT (zEx 93 S_tx_sign (zEx 97 S_tx_fail (zEx 95 S_tx_skip (zEx 53 (P_lr_readAmount Q_lr_readAmount) (zEx 96 S_tx_expect (zEx 94 S_tx_isDigit (zEx 98 S_tx_number (zEx 40 S_lw_emit zE0)))))))) zc_54 0 [.ref 39, .ref 23, .int y] [] (ar, fi, (m1, m2, 1, m4, m5)) o := by
  intro q h hq
  unfold qG_lr_readFactor at h
  refine zT_seg t_lr_readFactor_39_23 ?_
  obtain ⟨TT, hTT⟩ : ∃ T, T = zT X zFT (zEx 93 S_tx_sign (zEx 97 S_tx_fail (zEx 95 S_tx_skip (zEx 53 (P_lr_readAmount Q_lr_readAmount) (zEx 96 S_tx_expect (zEx 94 S_tx_isDigit (zEx 98 S_tx_number (zEx 40 S_lw_emit zE0)))))))) zc_54 o := ⟨_, rfl⟩
  rw [← hTT]
  refine zg_el h (fun hg h => zU_g hTT hg ?_)
  refine zl_el h (fun h => zU_l hTT ?_)
  refine zb_el h (fun hb h => zU_t hTT hb ?_) (fun hb h => zU_f hTT hb ?_)
  · refine zg_el h (fun hg h => zU_g hTT hg ?_)
    refine zl_el h (fun h => zU_l hTT ?_)
    refine zb_el h (fun hb h => zU_t hTT hb ?_) (fun hb h => zU_f hTT hb ?_)
    · refine zb_el h (fun hb h => zU_t hTT hb ?_) (fun hb h => zU_f hTT hb ?_)
      · refine zb_el h (fun hb h => zU_t hTT hb ?_) (fun hb h => zU_f hTT hb ?_)
        · refine zg_el h (fun hg h => zU_g hTT hg ?_)
          refine zl_el h (fun h => zU_l hTT ?_)
          refine zl_el h (fun h => zU_l hTT ?_)
          refine zl_el h (fun h => zU_l hTT ?_)
          refine zl_el h (fun h => zU_l hTT ?_)
          refine zl_el h (fun h => zU_l hTT ?_)
          refine zl_el h (fun h => zU_l hTT ?_)
          rw [hTT]
          have hz := zsi (P := (fun t => O_lr_readFactor_39_23 ar fi m1 m2 m4 m5 t = o)) h hq
          refine (zO_mk ?_ ?_).trans hz
          · first | with_reducible rfl | exact hA0_lr_readFactor _ _ _
          · first | with_reducible rfl | exact hF1_lr_readFactor _ _ _ _
        · refine zl_el h (fun h => zU_l hTT ?_)
          refine zl_el h (fun h => zU_l hTT ?_)
          rw [hTT]
          have hz := zsi (P := (fun t => O_lr_readFactor_39_23 ar fi m1 m2 m4 m5 t = o)) h hq
          refine (zO_mk ?_ ?_).trans hz
          · first | with_reducible rfl | exact hA2_lr_readFactor _
          · first | with_reducible rfl | exact hF3_lr_readFactor _ _ _
      · refine zl_el h (fun h => zU_l hTT ?_)
        refine zl_el h (fun h => zU_l hTT ?_)
        rw [hTT]
        have hz := zsi (P := (fun t => O_lr_readFactor_39_23 ar fi m1 m2 m4 m5 t = o)) h hq
        refine (zO_mk ?_ ?_).trans hz
        · first | with_reducible rfl | exact hA2_lr_readFactor _
        · first | with_reducible rfl | exact hF3_lr_readFactor _ _ _
    · refine zbd_el h (fun v13 hv h => zU_c hTT hv ?_)
      refine zg_el h (fun hg h => zU_g hTT hg ?_)
      refine zl_el h (fun h => zU_l hTT ?_)
      refine zl_el h (fun h => zU_l hTT ?_)
      refine zl_el h (fun h => zU_l hTT ?_)
      refine zl_el h (fun h => zU_l hTT ?_)
      refine zl_el h (fun h => zU_l hTT ?_)
      rw [hTT]
      have hz := zsi (P := (fun t => O_lr_readFactor_39_23 ar fi m1 m2 m4 m5 t = o)) h hq
      refine (zO_mk ?_ ?_).trans hz
      · first | with_reducible rfl | exact hA0_lr_readFactor _ _ _
      · first | with_reducible rfl | exact hF4_lr_readFactor _ _ _ _ _ _
  · refine zb_el h (fun hb h => zU_t hTT hb ?_) (fun hb h => zU_f hTT hb ?_)
    · refine zl_el h (fun h => zU_l hTT ?_)
      refine zbd_el h (fun v20 hv h => zU_c hTT hv ?_)
      refine zg_el h (fun hg h => zU_g hTT hg ?_)
      refine zl_el h (fun h => zU_l hTT ?_)
      refine zl_el h (fun h => zU_l hTT ?_)
      refine zl_el h (fun h => zU_l hTT ?_)
      rw [hTT]
      have hz := zsi (P := (fun t => O_lr_readFactor_39_23 ar fi m1 m2 m4 m5 t = o)) h hq
      refine (zO_mk ?_ ?_).trans hz
      · first | with_reducible rfl | exact hA0_lr_readFactor _ _ _
      · first | with_reducible rfl | exact hF5_lr_readFactor _ _ _ _ _ _ _ _ _ _
    · refine zl_el h (fun h => zU_l hTT ?_)
      refine zl_el h (fun h => zU_l hTT ?_)
      rw [hTT]
      have hz := zsi (P := (fun t => O_lr_readFactor_39_23 ar fi m1 m2 m4 m5 t = o)) h hq
      refine (zO_mk ?_ ?_).trans hz
      · first | with_reducible rfl | exact hA2_lr_readFactor _
      · first | with_reducible rfl | exact hF3_lr_readFactor _ _ _
def O_lr_readFactor_39_31 (ar fi : Nat → Nat → Int32) (m1 : Nat) (m2 : Nat) (m4 : Nat) (m5 : Nat) (t : T_lr_readFactor) : zO2 := match t with
  | (t0, t1, t2, t3, t4, t5, t6) => (none, ((zua (zua ar 32 t0) 33 t1), (zuf (zuf (zuf (zuf (zuf fi 31 7 t2) 31 8 t3) 40 2 t4) 40 3 t5) 40 4 t6), (m1, m2, 1, m4, m5)))
set_option maxRecDepth 1000000 in
theorem t_lr_readFactor_39_31 {X : Nat × (Nat → Int32)} {ar fi : Nat → Nat → Int32} {m1 m2 m4 m5 : Nat} {y : Int32} {G_tx_sign : Int32 → Int32 → Int32 → (Nat → Int32) → Bool} {W_tx_sign : Int32 → Int32 → Int32 → (Nat → Int32) → Int32} {F0_tx_fail : Int32 → Int32 → Int32 → Int32 → Int32} {F1_tx_fail : Int32 → Int32 → Int32 → Int32 → Int32} {F0_tx_skip : Int32 → Int32} {Q_lr_readAmount : Int32 → (Nat → Int32) → (Nat → Int32) → (Nat → Int32) → Int32 → Int32 → Int32 → Int32 → Int32 → Int32 → Option ((Nat → Int32) × (Nat → Int32) × Int32 × Int32 × Int32 × Int32 × Int32)} {G_tx_expect : Int32 → Int32 → Int32 → Int32 → (Nat → Int32) → Int32 → Bool} {F0_tx_expect : Int32 → Int32 → Int32 → Int32 → (Nat → Int32) → Int32 → Int32} {F1_tx_expect : Int32 → Int32 → Int32 → Int32 → (Nat → Int32) → Int32 → Int32} {F2_tx_expect : Int32 → Int32 → Int32 → Int32 → (Nat → Int32) → Int32 → Int32} {G_tx_isDigit : Int32 → Int32 → Int32 → (Nat → Int32) → Bool} {W_tx_isDigit : Int32 → Int32 → Int32 → (Nat → Int32) → Int32} {Q_tx_number : Int32 → (Nat → Int32) → Int32 → Int32 → Int32 → Int32 → Option (Int32 × Int32 × Int32 × Int32)} {G_lw_emit : Int32 → Int32 → Int32 → (Nat → Int32) → (Nat → Int32) → Int32 → Bool} {W_lw_emit : Int32 → Int32 → Int32 → (Nat → Int32) → (Nat → Int32) → Int32 → Int32} {A0_lw_emit : Int32 → Int32 → Int32 → (Nat → Int32) → (Nat → Int32) → Int32 → Nat → Int32} {A1_lw_emit : Int32 → Int32 → Int32 → (Nat → Int32) → (Nat → Int32) → Int32 → Nat → Int32} {F0_lw_emit : Int32 → Int32 → Int32 → (Nat → Int32) → (Nat → Int32) → Int32 → Int32} {F1_lw_emit : Int32 → Int32 → Int32 → (Nat → Int32) → (Nat → Int32) → Int32 → Int32} : zseg X zFT (zEx 93 (P_tx_sign G_tx_sign W_tx_sign) (zEx 97 (P_tx_fail F0_tx_fail F1_tx_fail) (zEx 95 (P_tx_skip F0_tx_skip) (zEx 53 (P_lr_readAmount Q_lr_readAmount) (zEx 96 (P_tx_expect G_tx_expect F0_tx_expect F1_tx_expect F2_tx_expect) (zEx 94 (P_tx_isDigit G_tx_isDigit W_tx_isDigit) (zEx 98 (P_tx_number Q_tx_number) (zEx 40 (P_lw_emit G_lw_emit W_lw_emit A0_lw_emit A1_lw_emit F0_lw_emit F1_lw_emit) zE0)))))))) zc_54 (fun p => false) 400 0 [.ref 39, .ref 31, .int y] [] (ar, fi, (m1, m2, 1, m4, m5)) = (
  zg (G_tx_sign (fi 40 2) (fi 40 4) (fi 40 1) (ar 1)) (
  zl (W_tx_sign (fi 40 2) (fi 40 4) (fi 40 1) (ar 1)) (fun v1 =>
  bif !decide (v1 = 91) then
   zg (G_tx_isDigit (fi 40 2) (fi 40 4) (fi 40 1) (ar 1)) (
   zl (W_tx_isDigit (fi 40 2) (fi 40 4) (fi 40 1) (ar 1)) (fun v2 =>
   bif decide (v2 = 0) then
    bif decide (0 ≤ v1) then
     bif decide (0 ≤ zix ((Int32.toUInt32 v1 % 65536).toInt32)) then
      zg (G_lw_emit 2 (zix ((Int32.toUInt32 v1 % 65536).toInt32)) (fi 31 7) (ar 32) (ar 33) (fi 31 8)) (
      zl (W_lw_emit 2 (zix ((Int32.toUInt32 v1 % 65536).toInt32)) (fi 31 7) (ar 32) (ar 33) (fi 31 8)) (fun v3 =>
      zl (A0_lw_emit 2 (zix ((Int32.toUInt32 v1 % 65536).toInt32)) (fi 31 7) (ar 32) (ar 33) (fi 31 8)) (fun v4 =>
      zl (A1_lw_emit 2 (zix ((Int32.toUInt32 v1 % 65536).toInt32)) (fi 31 7) (ar 32) (ar 33) (fi 31 8)) (fun v5 =>
      zl (F0_lw_emit 2 (zix ((Int32.toUInt32 v1 % 65536).toInt32)) (fi 31 7) (ar 32) (ar 33) (fi 31 8)) (fun v6 =>
      zl (F1_lw_emit 2 (zix ((Int32.toUInt32 v1 % 65536).toInt32)) (fi 31 7) (ar 32) (ar 33) (fi 31 8)) (fun v7 =>
      zl (F0_tx_skip (fi 40 4)) (fun v8 =>
      some (.inr (none, ((zua (zua ar 32 v4) 33 v5), (zuf (zuf (zuf fi 31 7 v6) 31 8 v7) 40 4 v8), (m1, m2, 1, m4, m5)))))))))))
     else
      zl (F0_tx_fail 1 (fi 40 4) (fi 40 2) (fi 40 3)) (fun v9 =>
      zl (F1_tx_fail 1 (fi 40 4) (fi 40 2) (fi 40 3)) (fun v10 =>
      some (.inr (none, (ar, (zuf (zuf fi 40 2 v9) 40 3 v10), (m1, m2, 1, m4, m5))))))
    else
     zl (F0_tx_fail 1 (fi 40 4) (fi 40 2) (fi 40 3)) (fun v11 =>
     zl (F1_tx_fail 1 (fi 40 4) (fi 40 2) (fi 40 3)) (fun v12 =>
     some (.inr (none, (ar, (zuf (zuf fi 40 2 v11) 40 3 v12), (m1, m2, 1, m4, m5))))))
   else
    zl (Q_tx_number 5 (ar 1) (fi 40 1) (fi 40 2) (fi 40 3) (fi 40 4)) (fun v13 => zg v13.isSome (
    zg (G_lw_emit 1 (((zgt v13).1)) (fi 31 7) (ar 32) (ar 33) (fi 31 8)) (
    zl (W_lw_emit 1 (((zgt v13).1)) (fi 31 7) (ar 32) (ar 33) (fi 31 8)) (fun v14 =>
    zl (A0_lw_emit 1 (((zgt v13).1)) (fi 31 7) (ar 32) (ar 33) (fi 31 8)) (fun v15 =>
    zl (A1_lw_emit 1 (((zgt v13).1)) (fi 31 7) (ar 32) (ar 33) (fi 31 8)) (fun v16 =>
    zl (F0_lw_emit 1 (((zgt v13).1)) (fi 31 7) (ar 32) (ar 33) (fi 31 8)) (fun v17 =>
    zl (F1_lw_emit 1 (((zgt v13).1)) (fi 31 7) (ar 32) (ar 33) (fi 31 8)) (fun v18 =>
    some (.inr (none, ((zua (zua ar 32 v15) 33 v16), (zuf (zuf (zuf (zuf (zuf fi 40 2 (((zgt v13).2.1))) 40 3 (((zgt v13).2.2.1))) 40 4 (((zgt v13).2.2.2))) 31 7 v17) 31 8 v18), (m1, m2, 1, m4, m5))))))))))))))
  else
   bif decide (y < 6) then
    zl (F0_tx_skip (fi 40 4)) (fun v19 =>
    zl (Q_lr_readAmount (y + 1) (ar 1) (ar 32) (ar 33) (fi 31 7) (fi 31 8) (fi 40 1) (fi 40 2) (fi 40 3) v19) (fun v20 => zg v20.isSome (
    zg (G_tx_expect 93 (((zgt v20).2.2.2.2.1)) (((zgt v20).2.2.2.2.2.2)) (fi 40 1) (ar 1) (((zgt v20).2.2.2.2.2.1))) (
    zl (F0_tx_expect 93 (((zgt v20).2.2.2.2.1)) (((zgt v20).2.2.2.2.2.2)) (fi 40 1) (ar 1) (((zgt v20).2.2.2.2.2.1))) (fun v21 =>
    zl (F1_tx_expect 93 (((zgt v20).2.2.2.2.1)) (((zgt v20).2.2.2.2.2.2)) (fi 40 1) (ar 1) (((zgt v20).2.2.2.2.2.1))) (fun v22 =>
    zl (F2_tx_expect 93 (((zgt v20).2.2.2.2.1)) (((zgt v20).2.2.2.2.2.2)) (fi 40 1) (ar 1) (((zgt v20).2.2.2.2.2.1))) (fun v23 =>
    some (.inr (none, ((zua (zua ar 32 (((zgt v20).1))) 33 (((zgt v20).2.1))), (zuf (zuf (zuf (zuf (zuf (zuf (zuf (zuf (zuf fi 40 4 v19) 31 7 (((zgt v20).2.2.1))) 31 8 (((zgt v20).2.2.2.1))) 40 2 (((zgt v20).2.2.2.2.1))) 40 3 (((zgt v20).2.2.2.2.2.1))) 40 4 (((zgt v20).2.2.2.2.2.2))) 40 2 v21) 40 3 v22) 40 4 v23), (m1, m2, 1, m4, m5)))))))))))
   else
    zl (F0_tx_fail 5 (fi 40 4) (fi 40 2) (fi 40 3)) (fun v24 =>
    zl (F1_tx_fail 5 (fi 40 4) (fi 40 2) (fi 40 3)) (fun v25 =>
    some (.inr (none, (ar, (zuf (zuf fi 40 2 v24) 40 3 v25), (m1, m2, 1, m4, m5)))))))) : Option ((Nat × List Value × List Value × zH2) ⊕ zO2)) := by with_unfolding_all rfl
set_option maxRecDepth 20000 in
theorem e_lr_readFactor_39_31 {X : Nat × (Nat → Int32)} {ar fi : Nat → Nat → Int32} {m1 m2 m4 m5 : Nat} {y : Int32} {Q_lr_readCondition : Int32 → (Nat → Int32) → (Nat → Int32) → (Nat → Int32) → Int32 → Int32 → Int32 → Int32 → Int32 → Int32 → Option ((Nat → Int32) × (Nat → Int32) × Int32 × Int32 × Int32 × Int32 × Int32)} {Q_lr_readTest : Int32 → (Nat → Int32) → (Nat → Int32) → (Nat → Int32) → Int32 → Int32 → Int32 → Int32 → Int32 → Int32 → Option ((Nat → Int32) × (Nat → Int32) × Int32 × Int32 × Int32 × Int32 × Int32)} {Q_lr_readAmount : Int32 → (Nat → Int32) → (Nat → Int32) → (Nat → Int32) → Int32 → Int32 → Int32 → Int32 → Int32 → Int32 → Option ((Nat → Int32) × (Nat → Int32) × Int32 × Int32 × Int32 × Int32 × Int32)} {Q_lr_readFactor : Int32 → (Nat → Int32) → (Nat → Int32) → (Nat → Int32) → Int32 → Int32 → Int32 → Int32 → Int32 → Int32 → Option ((Nat → Int32) × (Nat → Int32) × Int32 × Int32 × Int32 × Int32 × Int32)} {o : zO2} : ∀ (q : T_lr_readFactor), qG_lr_readFactor Q_lr_readCondition Q_lr_readTest Q_lr_readAmount Q_lr_readFactor y (ar 1) (ar 32) (ar 33) (fi 31 7) (fi 31 8) (fi 40 1) (fi 40 2) (fi 40 3) (fi 40 4) = some q → (fun t => O_lr_readFactor_39_31 ar fi m1 m2 m4 m5 t = o) q → zR2 X zFT (zEx 93 S_tx_sign (zEx 97 S_tx_fail (zEx 95 S_tx_skip (zEx 53 (P_lr_readAmount Q_lr_readAmount) (zEx 96 S_tx_expect (zEx 94 S_tx_isDigit (zEx 98 S_tx_number (zEx 40 S_lw_emit zE0)))))))) zc_54 0 [.ref 39, .ref 31, .int y] [] (ar, fi, (m1, m2, 1, m4, m5)) o := by
  intro q h hq
  unfold qG_lr_readFactor at h
  refine zT_seg t_lr_readFactor_39_31 ?_
  obtain ⟨TT, hTT⟩ : ∃ T, T = zT X zFT (zEx 93 S_tx_sign (zEx 97 S_tx_fail (zEx 95 S_tx_skip (zEx 53 (P_lr_readAmount Q_lr_readAmount) (zEx 96 S_tx_expect (zEx 94 S_tx_isDigit (zEx 98 S_tx_number (zEx 40 S_lw_emit zE0)))))))) zc_54 o := ⟨_, rfl⟩
  rw [← hTT]
  refine zg_el h (fun hg h => zU_g hTT hg ?_)
  refine zl_el h (fun h => zU_l hTT ?_)
  refine zb_el h (fun hb h => zU_t hTT hb ?_) (fun hb h => zU_f hTT hb ?_)
  · refine zg_el h (fun hg h => zU_g hTT hg ?_)
    refine zl_el h (fun h => zU_l hTT ?_)
    refine zb_el h (fun hb h => zU_t hTT hb ?_) (fun hb h => zU_f hTT hb ?_)
    · refine zb_el h (fun hb h => zU_t hTT hb ?_) (fun hb h => zU_f hTT hb ?_)
      · refine zb_el h (fun hb h => zU_t hTT hb ?_) (fun hb h => zU_f hTT hb ?_)
        · refine zg_el h (fun hg h => zU_g hTT hg ?_)
          refine zl_el h (fun h => zU_l hTT ?_)
          refine zl_el h (fun h => zU_l hTT ?_)
          refine zl_el h (fun h => zU_l hTT ?_)
          refine zl_el h (fun h => zU_l hTT ?_)
          refine zl_el h (fun h => zU_l hTT ?_)
          refine zl_el h (fun h => zU_l hTT ?_)
          rw [hTT]
          have hz := zsi (P := (fun t => O_lr_readFactor_39_31 ar fi m1 m2 m4 m5 t = o)) h hq
          refine (zO_mk ?_ ?_).trans hz
          · first | with_reducible rfl | exact hA6_lr_readFactor _ _ _
          · first | with_reducible rfl | exact hF7_lr_readFactor _ _ _ _
        · refine zl_el h (fun h => zU_l hTT ?_)
          refine zl_el h (fun h => zU_l hTT ?_)
          rw [hTT]
          have hz := zsi (P := (fun t => O_lr_readFactor_39_31 ar fi m1 m2 m4 m5 t = o)) h hq
          refine (zO_mk ?_ ?_).trans hz
          · first | with_reducible rfl | exact hA8_lr_readFactor _
          · first | with_reducible rfl | exact hF9_lr_readFactor _ _ _
      · refine zl_el h (fun h => zU_l hTT ?_)
        refine zl_el h (fun h => zU_l hTT ?_)
        rw [hTT]
        have hz := zsi (P := (fun t => O_lr_readFactor_39_31 ar fi m1 m2 m4 m5 t = o)) h hq
        refine (zO_mk ?_ ?_).trans hz
        · first | with_reducible rfl | exact hA8_lr_readFactor _
        · first | with_reducible rfl | exact hF9_lr_readFactor _ _ _
    · refine zbd_el h (fun v13 hv h => zU_c hTT hv ?_)
      refine zg_el h (fun hg h => zU_g hTT hg ?_)
      refine zl_el h (fun h => zU_l hTT ?_)
      refine zl_el h (fun h => zU_l hTT ?_)
      refine zl_el h (fun h => zU_l hTT ?_)
      refine zl_el h (fun h => zU_l hTT ?_)
      refine zl_el h (fun h => zU_l hTT ?_)
      rw [hTT]
      have hz := zsi (P := (fun t => O_lr_readFactor_39_31 ar fi m1 m2 m4 m5 t = o)) h hq
      refine (zO_mk ?_ ?_).trans hz
      · first | with_reducible rfl | exact hA6_lr_readFactor _ _ _
      · first | with_reducible rfl | exact hF10_lr_readFactor _ _ _ _ _ _
  · refine zb_el h (fun hb h => zU_t hTT hb ?_) (fun hb h => zU_f hTT hb ?_)
    · refine zl_el h (fun h => zU_l hTT ?_)
      refine zbd_el h (fun v20 hv h => zU_c hTT hv ?_)
      refine zg_el h (fun hg h => zU_g hTT hg ?_)
      refine zl_el h (fun h => zU_l hTT ?_)
      refine zl_el h (fun h => zU_l hTT ?_)
      refine zl_el h (fun h => zU_l hTT ?_)
      rw [hTT]
      have hz := zsi (P := (fun t => O_lr_readFactor_39_31 ar fi m1 m2 m4 m5 t = o)) h hq
      refine (zO_mk ?_ ?_).trans hz
      · first | with_reducible rfl | exact hA6_lr_readFactor _ _ _
      · first | with_reducible rfl | exact hF11_lr_readFactor _ _ _ _ _ _ _ _ _ _
    · refine zl_el h (fun h => zU_l hTT ?_)
      refine zl_el h (fun h => zU_l hTT ?_)
      rw [hTT]
      have hz := zsi (P := (fun t => O_lr_readFactor_39_31 ar fi m1 m2 m4 m5 t = o)) h hq
      refine (zO_mk ?_ ?_).trans hz
      · first | with_reducible rfl | exact hA8_lr_readFactor _
      · first | with_reducible rfl | exact hF9_lr_readFactor _ _ _
