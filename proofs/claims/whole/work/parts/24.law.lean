abbrev T_lr_read : Type := Int32 × (Nat → Int32) × (Nat → Int32) × (Nat → Int32) × (Nat → Int32) × (Nat → Int32) × (Nat → Int32) × Int32 × Int32 × Int32 × Int32 × Int32 × Int32 × Int32
abbrev U_lr_read_19 : Type := Int32 × Int32 × (Nat → Int32) × (Nat → Int32) × (Nat → Int32) × (Nat → Int32) × (Nat → Int32) × (Nat → Int32) × Int32 × Int32 × Int32 × Int32 × Int32 × Int32
noncomputable def b_lr_read_19 (a1 : Nat → Int32) (c40_1 : Int32) (l4 : Int32) (l5 : Int32) (b24 : Nat → Int32) (b25 : Nat → Int32) (b27 : Nat → Int32) (b28 : Nat → Int32) (b29 : Nat → Int32) (b30 : Nat → Int32) (c23_7 : Int32) (c23_8 : Int32) (c23_9 : Int32) (c40_2 : Int32) (c40_3 : Int32) (c40_4 : Int32) : Option (U_lr_read_19 ⊕ T_lr_read) :=
  bif decide (16 < l5) then
   zl (w_tx_answerOr c23_9 c40_2 c40_3) (fun v8 =>
   some (.inr (v8, b24, b25, b27, b28, b29, b30, c23_7, c23_8, c23_9, c40_1, c40_2, c40_3, c40_4)))
  else
   bif decide (l4 = 0) then
    zl (w_tx_answerOr c23_9 c40_2 c40_3) (fun v9 =>
    some (.inr (v9, b24, b25, b27, b28, b29, b30, c23_7, c23_8, c23_9, c40_1, c40_2, c40_3, c40_4)))
   else
    zbd (q_lr_readLetter l5 a1 b27 b28 c23_7 c23_9 c40_1 c40_2 c40_3 c40_4) (fun v10 =>
    bif decide ((v10.1) = 98) then
     zbd (q_lr_readAmount 0 a1 b24 b25 c23_7 c23_8 c40_1 ((v10.2.2.2.1)) ((v10.2.2.2.2.1)) ((v10.2.2.2.2.2))) (fun v11 =>
     zg (g_lw_beginCondition c23_9 b29 ((v11.2.2.1))) (
     zl (a0_lw_beginCondition c23_9 b29 ((v11.2.2.1))) (fun v12 =>
     zg (g_tx_expect 40 ((v11.2.2.2.2.1)) ((v11.2.2.2.2.2.2)) c40_1 a1 ((v11.2.2.2.2.2.1))) (
     zl (f0_tx_expect 40 ((v11.2.2.2.2.1)) ((v11.2.2.2.2.2.2)) c40_1 a1 ((v11.2.2.2.2.2.1))) (fun v13 =>
     zl (f1_tx_expect 40 ((v11.2.2.2.2.1)) ((v11.2.2.2.2.2.2)) c40_1 a1 ((v11.2.2.2.2.2.1))) (fun v14 =>
     zl (f2_tx_expect 40 ((v11.2.2.2.2.1)) ((v11.2.2.2.2.2.2)) c40_1 a1 ((v11.2.2.2.2.2.1))) (fun v15 =>
     zbd (q_lr_readCondition 1 a1 ((v11.1)) ((v11.2.1)) ((v11.2.2.1)) ((v11.2.2.2.1)) c40_1 v13 v14 v15) (fun v16 =>
     zg (g_tx_expect 41 ((v16.2.2.2.2.1)) ((v16.2.2.2.2.2.2)) c40_1 a1 ((v16.2.2.2.2.2.1))) (
     zl (f0_tx_expect 41 ((v16.2.2.2.2.1)) ((v16.2.2.2.2.2.2)) c40_1 a1 ((v16.2.2.2.2.2.1))) (fun v17 =>
     zl (f1_tx_expect 41 ((v16.2.2.2.2.1)) ((v16.2.2.2.2.2.2)) c40_1 a1 ((v16.2.2.2.2.2.1))) (fun v18 =>
     zl (f2_tx_expect 41 ((v16.2.2.2.2.1)) ((v16.2.2.2.2.2.2)) c40_1 a1 ((v16.2.2.2.2.2.1))) (fun v19 =>
     zg (g_lw_endRule c23_9 b30 ((v16.2.2.1))) (
     zl (a0_lw_endRule c23_9 b30 ((v16.2.2.1))) (fun v20 =>
     zl (f0_lw_endRule c23_9 b30 ((v16.2.2.1))) (fun v21 =>
     zg (g_tx_sign v17 v19 c40_1 a1) (
     zl (w_tx_sign v17 v19 c40_1 a1) (fun v22 =>
     bif !decide (v22 = 59) then
      zl (w_tx_isAtEnd v19 c40_1) (fun v23 =>
      bif !decide (v23 = 0) then
       some (.inl (0, l5 + 1, ((v16.1)), ((v16.2.1)), ((v10.2.1)), ((v10.2.2.1)), v12, v20, (v16.2.2.1), (v16.2.2.2.1), v21, v17, v18, v19))
      else
       zl (f0_tx_fail 1 v19 v17 v18) (fun v24 =>
       zl (f1_tx_fail 1 v19 v17 v18) (fun v25 =>
       some (.inl (0, l5 + 1, ((v16.1)), ((v16.2.1)), ((v10.2.1)), ((v10.2.2.1)), v12, v20, (v16.2.2.1), (v16.2.2.2.1), v21, v24, v25, v19)))))
     else
      zl (f0_tx_skip v19) (fun v26 =>
      some (.inl (1, l5 + 1, ((v16.1)), ((v16.2.1)), ((v10.2.1)), ((v10.2.2.1)), v12, v20, (v16.2.2.1), (v16.2.2.2.1), v21, v17, v18, v26))))))))))))))))))))
    else
     bif !decide ((v10.1) = 115) then
      zg (g_lw_beginCondition c23_9 b29 c23_7) (
      zl (a0_lw_beginCondition c23_9 b29 c23_7) (fun v27 =>
      zg (g_tx_expect 40 ((v10.2.2.2.1)) ((v10.2.2.2.2.2)) c40_1 a1 ((v10.2.2.2.2.1))) (
      zl (f0_tx_expect 40 ((v10.2.2.2.1)) ((v10.2.2.2.2.2)) c40_1 a1 ((v10.2.2.2.2.1))) (fun v28 =>
      zl (f1_tx_expect 40 ((v10.2.2.2.1)) ((v10.2.2.2.2.2)) c40_1 a1 ((v10.2.2.2.2.1))) (fun v29 =>
      zl (f2_tx_expect 40 ((v10.2.2.2.1)) ((v10.2.2.2.2.2)) c40_1 a1 ((v10.2.2.2.2.1))) (fun v30 =>
      zbd (q_lr_readCondition 1 a1 b24 b25 c23_7 c23_8 c40_1 v28 v29 v30) (fun v31 =>
      zg (g_tx_expect 41 ((v31.2.2.2.2.1)) ((v31.2.2.2.2.2.2)) c40_1 a1 ((v31.2.2.2.2.2.1))) (
      zl (f0_tx_expect 41 ((v31.2.2.2.2.1)) ((v31.2.2.2.2.2.2)) c40_1 a1 ((v31.2.2.2.2.2.1))) (fun v32 =>
      zl (f1_tx_expect 41 ((v31.2.2.2.2.1)) ((v31.2.2.2.2.2.2)) c40_1 a1 ((v31.2.2.2.2.2.1))) (fun v33 =>
      zl (f2_tx_expect 41 ((v31.2.2.2.2.1)) ((v31.2.2.2.2.2.2)) c40_1 a1 ((v31.2.2.2.2.2.1))) (fun v34 =>
      zg (g_lw_endRule c23_9 b30 ((v31.2.2.1))) (
      zl (a0_lw_endRule c23_9 b30 ((v31.2.2.1))) (fun v35 =>
      zl (f0_lw_endRule c23_9 b30 ((v31.2.2.1))) (fun v36 =>
      zg (g_tx_sign v32 v34 c40_1 a1) (
      zl (w_tx_sign v32 v34 c40_1 a1) (fun v37 =>
      bif !decide (v37 = 59) then
       zl (w_tx_isAtEnd v34 c40_1) (fun v38 =>
       bif !decide (v38 = 0) then
        some (.inl (0, l5 + 1, ((v31.1)), ((v31.2.1)), ((v10.2.1)), ((v10.2.2.1)), v27, v35, (v31.2.2.1), (v31.2.2.2.1), v36, v32, v33, v34))
       else
        zl (f0_tx_fail 1 v34 v32 v33) (fun v39 =>
        zl (f1_tx_fail 1 v34 v32 v33) (fun v40 =>
        some (.inl (0, l5 + 1, ((v31.1)), ((v31.2.1)), ((v10.2.1)), ((v10.2.2.1)), v27, v35, (v31.2.2.1), (v31.2.2.2.1), v36, v39, v40, v34)))))
      else
       zl (f0_tx_skip v34) (fun v41 =>
       some (.inl (1, l5 + 1, ((v31.1)), ((v31.2.1)), ((v10.2.1)), ((v10.2.2.1)), v27, v35, (v31.2.2.1), (v31.2.2.2.1), v36, v32, v33, v41)))))))))))))))))))
     else
      zbd (q_lr_readAmount 0 a1 b24 b25 c23_7 c23_8 c40_1 ((v10.2.2.2.1)) ((v10.2.2.2.2.1)) ((v10.2.2.2.2.2))) (fun v42 =>
      zg (g_lw_beginCondition c23_9 b29 ((v42.2.2.1))) (
      zl (a0_lw_beginCondition c23_9 b29 ((v42.2.2.1))) (fun v43 =>
      zg (g_tx_expect 40 ((v42.2.2.2.2.1)) ((v42.2.2.2.2.2.2)) c40_1 a1 ((v42.2.2.2.2.2.1))) (
      zl (f0_tx_expect 40 ((v42.2.2.2.2.1)) ((v42.2.2.2.2.2.2)) c40_1 a1 ((v42.2.2.2.2.2.1))) (fun v44 =>
      zl (f1_tx_expect 40 ((v42.2.2.2.2.1)) ((v42.2.2.2.2.2.2)) c40_1 a1 ((v42.2.2.2.2.2.1))) (fun v45 =>
      zl (f2_tx_expect 40 ((v42.2.2.2.2.1)) ((v42.2.2.2.2.2.2)) c40_1 a1 ((v42.2.2.2.2.2.1))) (fun v46 =>
      zbd (q_lr_readCondition 1 a1 ((v42.1)) ((v42.2.1)) ((v42.2.2.1)) ((v42.2.2.2.1)) c40_1 v44 v45 v46) (fun v47 =>
      zg (g_tx_expect 41 ((v47.2.2.2.2.1)) ((v47.2.2.2.2.2.2)) c40_1 a1 ((v47.2.2.2.2.2.1))) (
      zl (f0_tx_expect 41 ((v47.2.2.2.2.1)) ((v47.2.2.2.2.2.2)) c40_1 a1 ((v47.2.2.2.2.2.1))) (fun v48 =>
      zl (f1_tx_expect 41 ((v47.2.2.2.2.1)) ((v47.2.2.2.2.2.2)) c40_1 a1 ((v47.2.2.2.2.2.1))) (fun v49 =>
      zl (f2_tx_expect 41 ((v47.2.2.2.2.1)) ((v47.2.2.2.2.2.2)) c40_1 a1 ((v47.2.2.2.2.2.1))) (fun v50 =>
      zg (g_lw_endRule c23_9 b30 ((v47.2.2.1))) (
      zl (a0_lw_endRule c23_9 b30 ((v47.2.2.1))) (fun v51 =>
      zl (f0_lw_endRule c23_9 b30 ((v47.2.2.1))) (fun v52 =>
      zg (g_tx_sign v48 v50 c40_1 a1) (
      zl (w_tx_sign v48 v50 c40_1 a1) (fun v53 =>
      bif !decide (v53 = 59) then
       zl (w_tx_isAtEnd v50 c40_1) (fun v54 =>
       bif !decide (v54 = 0) then
        some (.inl (0, l5 + 1, ((v47.1)), ((v47.2.1)), ((v10.2.1)), ((v10.2.2.1)), v43, v51, (v47.2.2.1), (v47.2.2.2.1), v52, v48, v49, v50))
       else
        zl (f0_tx_fail 1 v50 v48 v49) (fun v55 =>
        zl (f1_tx_fail 1 v50 v48 v49) (fun v56 =>
        some (.inl (0, l5 + 1, ((v47.1)), ((v47.2.1)), ((v10.2.1)), ((v10.2.2.1)), v43, v51, (v47.2.2.1), (v47.2.2.2.1), v52, v55, v56, v50)))))
      else
       zl (f0_tx_skip v50) (fun v57 =>
       some (.inl (1, l5 + 1, ((v47.1)), ((v47.2.1)), ((v10.2.1)), ((v10.2.2.1)), v43, v51, (v47.2.2.1), (v47.2.2.2.1), v52, v48, v49, v57)))))))))))))))))))))
noncomputable def f_lr_read_19 (a1 : Nat → Int32) (c40_1 : Int32) : U_lr_read_19 → Option (U_lr_read_19 ⊕ T_lr_read) := fun s => b_lr_read_19 a1 c40_1 s.1 s.2.1 s.2.2.1 s.2.2.2.1 s.2.2.2.2.1 s.2.2.2.2.2.1 s.2.2.2.2.2.2.1 s.2.2.2.2.2.2.2.1 s.2.2.2.2.2.2.2.2.1 s.2.2.2.2.2.2.2.2.2.1 s.2.2.2.2.2.2.2.2.2.2.1 s.2.2.2.2.2.2.2.2.2.2.2.1 s.2.2.2.2.2.2.2.2.2.2.2.2.1 s.2.2.2.2.2.2.2.2.2.2.2.2.2
noncomputable def l_lr_read_19 (a1 : Nat → Int32) (c40_1 : Int32) (l4 : Int32) (l5 : Int32) (b24 : Nat → Int32) (b25 : Nat → Int32) (b27 : Nat → Int32) (b28 : Nat → Int32) (b29 : Nat → Int32) (b30 : Nat → Int32) (c23_7 : Int32) (c23_8 : Int32) (c23_9 : Int32) (c40_2 : Int32) (c40_3 : Int32) (c40_4 : Int32) : Option T_lr_read := zlp (f_lr_read_19 a1 c40_1) (l4, l5, b24, b25, b27, b28, b29, b30, c23_7, c23_8, c23_9, c40_2, c40_3, c40_4)
noncomputable def q_lr_read (y : Int32) (a1 : Nat → Int32) (a24 : Nat → Int32) (a25 : Nat → Int32) (a27 : Nat → Int32) (a28 : Nat → Int32) (a29 : Nat → Int32) (a30 : Nat → Int32) : Option T_lr_read :=
  zl (f0_tx_begin y) (fun v1 =>
  zl (f1_tx_begin y) (fun v2 =>
  zl (f2_tx_begin y) (fun v3 =>
  zl (f3_tx_begin y) (fun v4 =>
  zl (f0_lw_clear) (fun v5 =>
  zl (f1_lw_clear) (fun v6 =>
  zl (f2_lw_clear) (fun v7 =>
  l_lr_read_19 a1 v1 1 0 a24 a25 a27 a28 a29 a30 v5 v6 v7 v2 v3 v4)))))))
def P_lr_read (Q : Int32 → (Nat → Int32) → (Nat → Int32) → (Nat → Int32) → (Nat → Int32) → (Nat → Int32) → (Nat → Int32) → (Nat → Int32) → Option (Int32 × (Nat → Int32) × (Nat → Int32) × (Nat → Int32) × (Nat → Int32) × (Nat → Int32) × (Nat → Int32) × Int32 × Int32 × Int32 × Int32 × Int32 × Int32 × Int32)) : zSp := fun as g => match as with
  | [.ref a, .ref b, .int y, .ref c] => bif Nat.beq a 39 && Nat.beq b 1 && Nat.beq c 23 then zpe (Q y (g.1 1) (g.1 24) (g.1 25) (g.1 27) (g.1 28) (g.1 29) (g.1 30)) (fun t => (some (.int (t.1)), ((zua (zua (zua (zua (zua (zua g.1 24 t.2.1) 25 t.2.2.1) 27 t.2.2.2.1) 28 t.2.2.2.2.1) 29 t.2.2.2.2.2.1) 30 t.2.2.2.2.2.2.1), (zuf (zuf (zuf (zuf (zuf (zuf (zuf g.2.1 23 7 t.2.2.2.2.2.2.2.1) 23 8 t.2.2.2.2.2.2.2.2.1) 23 9 t.2.2.2.2.2.2.2.2.2.1) 40 1 t.2.2.2.2.2.2.2.2.2.2.1) 40 2 t.2.2.2.2.2.2.2.2.2.2.2.1) 40 3 t.2.2.2.2.2.2.2.2.2.2.2.2.1) 40 4 t.2.2.2.2.2.2.2.2.2.2.2.2.2), (g.2.2.1, g.2.2.2.1, 1, g.2.2.2.2.2.1, g.2.2.2.2.2.2)))) else bif Nat.beq a 39 && Nat.beq b 1 && Nat.beq c 31 then zpe (Q y (g.1 1) (g.1 32) (g.1 33) (g.1 35) (g.1 36) (g.1 37) (g.1 38)) (fun t => (some (.int (t.1)), ((zua (zua (zua (zua (zua (zua g.1 32 t.2.1) 33 t.2.2.1) 35 t.2.2.2.1) 36 t.2.2.2.2.1) 37 t.2.2.2.2.2.1) 38 t.2.2.2.2.2.2.1), (zuf (zuf (zuf (zuf (zuf (zuf (zuf g.2.1 31 7 t.2.2.2.2.2.2.2.1) 31 8 t.2.2.2.2.2.2.2.2.1) 31 9 t.2.2.2.2.2.2.2.2.2.1) 40 1 t.2.2.2.2.2.2.2.2.2.2.1) 40 2 t.2.2.2.2.2.2.2.2.2.2.2.1) 40 3 t.2.2.2.2.2.2.2.2.2.2.2.2.1) 40 4 t.2.2.2.2.2.2.2.2.2.2.2.2.2), (g.2.2.1, g.2.2.2.1, 1, g.2.2.2.2.2.1, g.2.2.2.2.2.2)))) else none
  | _ => none
noncomputable abbrev S_lr_read : zSp := P_lr_read q_lr_read
theorem hF23_lr_read (F : Nat → Nat → Int32) (w0 w1 w2 w3 w4 w5 w6 : Int32) : (zuf (zuf (zuf (zuf (zuf (zuf (zuf F 40 1 w0) 40 2 w1) 40 3 w2) 40 4 w3) 31 7 w4) 31 8 w5) 31 9 w6) = (zuf (zuf (zuf (zuf (zuf (zuf (zuf F 31 7 w4) 31 8 w5) 31 9 w6) 40 1 w0) 40 2 w1) 40 3 w2) 40 4 w3) := zufk_ix F [((40, 1), w0), ((40, 2), w1), ((40, 3), w2), ((40, 4), w3), ((31, 7), w4), ((31, 8), w5), ((31, 9), w6)] [((31, 7), some 4), ((31, 8), some 5), ((31, 9), some 6), ((40, 1), some 0), ((40, 2), some 1), ((40, 3), some 2), ((40, 4), some 3)] rfl
theorem hA22_lr_read (F : Nat → Nat → Int32) : F = (zua (zua (zua (zua (zua (zua F 32 (F 32)) 33 (F 33)) 35 (F 35)) 36 (F 36)) 37 (F 37)) 38 (F 38)) := zuak_ix F [] [(32, none), (33, none), (35, none), (36, none), (37, none), (38, none)] rfl
theorem hF21_lr_read (F : Nat → Nat → Int32) (w0 w1 w2 w3 w4 w5 w6 w7 w8 w9 w10 w11 w12 w13 w14 w15 w16 w17 w18 w19 w20 w21 w22 : Int32) : (zuf (zuf (zuf (zuf (zuf (zuf (zuf (zuf (zuf (zuf (zuf (zuf (zuf (zuf (zuf (zuf (zuf (zuf (zuf (zuf (zuf (zuf (zuf F 31 7 w0) 31 8 w1) 31 9 w2) 40 1 w3) 40 2 w4) 40 3 w5) 40 4 w6) 40 2 w7) 40 3 w8) 40 4 w9) 40 2 w10) 40 3 w11) 40 4 w12) 31 7 w13) 31 8 w14) 40 2 w15) 40 3 w16) 40 4 w17) 40 2 w18) 40 3 w19) 40 4 w20) 31 9 w21) 40 4 w22) = (zuf (zuf (zuf (zuf (zuf (zuf (zuf F 31 7 w13) 31 8 w14) 31 9 w21) 40 1 w3) 40 2 w18) 40 3 w19) 40 4 w22) := zufk_ix F [((31, 7), w0), ((31, 8), w1), ((31, 9), w2), ((40, 1), w3), ((40, 2), w4), ((40, 3), w5), ((40, 4), w6), ((40, 2), w7), ((40, 3), w8), ((40, 4), w9), ((40, 2), w10), ((40, 3), w11), ((40, 4), w12), ((31, 7), w13), ((31, 8), w14), ((40, 2), w15), ((40, 3), w16), ((40, 4), w17), ((40, 2), w18), ((40, 3), w19), ((40, 4), w20), ((31, 9), w21), ((40, 4), w22)] [((31, 7), some 13), ((31, 8), some 14), ((31, 9), some 21), ((40, 1), some 3), ((40, 2), some 18), ((40, 3), some 19), ((40, 4), some 22)] rfl
theorem hF20_lr_read (F : Nat → Nat → Int32) (w0 w1 w2 w3 w4 w5 w6 w7 w8 w9 w10 w11 w12 w13 w14 w15 w16 w17 w18 w19 w20 w21 w22 w23 : Int32) : (zuf (zuf (zuf (zuf (zuf (zuf (zuf (zuf (zuf (zuf (zuf (zuf (zuf (zuf (zuf (zuf (zuf (zuf (zuf (zuf (zuf (zuf (zuf (zuf F 31 7 w0) 31 8 w1) 31 9 w2) 40 1 w3) 40 2 w4) 40 3 w5) 40 4 w6) 40 2 w7) 40 3 w8) 40 4 w9) 40 2 w10) 40 3 w11) 40 4 w12) 31 7 w13) 31 8 w14) 40 2 w15) 40 3 w16) 40 4 w17) 40 2 w18) 40 3 w19) 40 4 w20) 31 9 w21) 40 2 w22) 40 3 w23) = (zuf (zuf (zuf (zuf (zuf (zuf (zuf F 31 7 w13) 31 8 w14) 31 9 w21) 40 1 w3) 40 2 w22) 40 3 w23) 40 4 w20) := zufk_ix F [((31, 7), w0), ((31, 8), w1), ((31, 9), w2), ((40, 1), w3), ((40, 2), w4), ((40, 3), w5), ((40, 4), w6), ((40, 2), w7), ((40, 3), w8), ((40, 4), w9), ((40, 2), w10), ((40, 3), w11), ((40, 4), w12), ((31, 7), w13), ((31, 8), w14), ((40, 2), w15), ((40, 3), w16), ((40, 4), w17), ((40, 2), w18), ((40, 3), w19), ((40, 4), w20), ((31, 9), w21), ((40, 2), w22), ((40, 3), w23)] [((31, 7), some 13), ((31, 8), some 14), ((31, 9), some 21), ((40, 1), some 3), ((40, 2), some 22), ((40, 3), some 23), ((40, 4), some 20)] rfl
theorem hF19_lr_read (F : Nat → Nat → Int32) (w0 w1 w2 w3 w4 w5 w6 w7 w8 w9 w10 w11 w12 w13 w14 w15 w16 w17 w18 w19 w20 w21 : Int32) : (zuf (zuf (zuf (zuf (zuf (zuf (zuf (zuf (zuf (zuf (zuf (zuf (zuf (zuf (zuf (zuf (zuf (zuf (zuf (zuf (zuf (zuf F 31 7 w0) 31 8 w1) 31 9 w2) 40 1 w3) 40 2 w4) 40 3 w5) 40 4 w6) 40 2 w7) 40 3 w8) 40 4 w9) 40 2 w10) 40 3 w11) 40 4 w12) 31 7 w13) 31 8 w14) 40 2 w15) 40 3 w16) 40 4 w17) 40 2 w18) 40 3 w19) 40 4 w20) 31 9 w21) = (zuf (zuf (zuf (zuf (zuf (zuf (zuf F 31 7 w13) 31 8 w14) 31 9 w21) 40 1 w3) 40 2 w18) 40 3 w19) 40 4 w20) := zufk_ix F [((31, 7), w0), ((31, 8), w1), ((31, 9), w2), ((40, 1), w3), ((40, 2), w4), ((40, 3), w5), ((40, 4), w6), ((40, 2), w7), ((40, 3), w8), ((40, 4), w9), ((40, 2), w10), ((40, 3), w11), ((40, 4), w12), ((31, 7), w13), ((31, 8), w14), ((40, 2), w15), ((40, 3), w16), ((40, 4), w17), ((40, 2), w18), ((40, 3), w19), ((40, 4), w20), ((31, 9), w21)] [((31, 7), some 13), ((31, 8), some 14), ((31, 9), some 21), ((40, 1), some 3), ((40, 2), some 18), ((40, 3), some 19), ((40, 4), some 20)] rfl
theorem hA18_lr_read (F : Nat → Nat → Int32) (w0 w1 w2 w3 w4 w5 w6 w7 w8 w9 w10 w11 : Nat → Int32) : (zua (zua (zua (zua (zua (zua (zua (zua (zua (zua (zua (zua F 32 w0) 33 w1) 35 w2) 36 w3) 37 w4) 38 w5) 35 w6) 36 w7) 37 w8) 32 w9) 33 w10) 38 w11) = (zua (zua (zua (zua (zua (zua F 32 w9) 33 w10) 35 w6) 36 w7) 37 w8) 38 w11) := zuak_ix F [(32, w0), (33, w1), (35, w2), (36, w3), (37, w4), (38, w5), (35, w6), (36, w7), (37, w8), (32, w9), (33, w10), (38, w11)] [(32, some 9), (33, some 10), (35, some 6), (36, some 7), (37, some 8), (38, some 11)] rfl
theorem hF17_lr_read (F : Nat → Nat → Int32) (w0 w1 w2 w3 w4 w5 w6 w7 w8 w9 w10 w11 w12 w13 w14 w15 w16 w17 w18 w19 w20 w21 w22 w23 w24 w25 w26 w27 : Int32) : (zuf (zuf (zuf (zuf (zuf (zuf (zuf (zuf (zuf (zuf (zuf (zuf (zuf (zuf (zuf (zuf (zuf (zuf (zuf (zuf (zuf (zuf (zuf (zuf (zuf (zuf (zuf (zuf F 31 7 w0) 31 8 w1) 31 9 w2) 40 1 w3) 40 2 w4) 40 3 w5) 40 4 w6) 40 2 w7) 40 3 w8) 40 4 w9) 31 7 w10) 31 8 w11) 40 2 w12) 40 3 w13) 40 4 w14) 40 2 w15) 40 3 w16) 40 4 w17) 31 7 w18) 31 8 w19) 40 2 w20) 40 3 w21) 40 4 w22) 40 2 w23) 40 3 w24) 40 4 w25) 31 9 w26) 40 4 w27) = (zuf (zuf (zuf (zuf (zuf (zuf (zuf F 31 7 w18) 31 8 w19) 31 9 w26) 40 1 w3) 40 2 w23) 40 3 w24) 40 4 w27) := zufk_ix F [((31, 7), w0), ((31, 8), w1), ((31, 9), w2), ((40, 1), w3), ((40, 2), w4), ((40, 3), w5), ((40, 4), w6), ((40, 2), w7), ((40, 3), w8), ((40, 4), w9), ((31, 7), w10), ((31, 8), w11), ((40, 2), w12), ((40, 3), w13), ((40, 4), w14), ((40, 2), w15), ((40, 3), w16), ((40, 4), w17), ((31, 7), w18), ((31, 8), w19), ((40, 2), w20), ((40, 3), w21), ((40, 4), w22), ((40, 2), w23), ((40, 3), w24), ((40, 4), w25), ((31, 9), w26), ((40, 4), w27)] [((31, 7), some 18), ((31, 8), some 19), ((31, 9), some 26), ((40, 1), some 3), ((40, 2), some 23), ((40, 3), some 24), ((40, 4), some 27)] rfl
theorem hF16_lr_read (F : Nat → Nat → Int32) (w0 w1 w2 w3 w4 w5 w6 w7 w8 w9 w10 w11 w12 w13 w14 w15 w16 w17 w18 w19 w20 w21 w22 w23 w24 w25 w26 w27 w28 : Int32) : (zuf (zuf (zuf (zuf (zuf (zuf (zuf (zuf (zuf (zuf (zuf (zuf (zuf (zuf (zuf (zuf (zuf (zuf (zuf (zuf (zuf (zuf (zuf (zuf (zuf (zuf (zuf (zuf (zuf F 31 7 w0) 31 8 w1) 31 9 w2) 40 1 w3) 40 2 w4) 40 3 w5) 40 4 w6) 40 2 w7) 40 3 w8) 40 4 w9) 31 7 w10) 31 8 w11) 40 2 w12) 40 3 w13) 40 4 w14) 40 2 w15) 40 3 w16) 40 4 w17) 31 7 w18) 31 8 w19) 40 2 w20) 40 3 w21) 40 4 w22) 40 2 w23) 40 3 w24) 40 4 w25) 31 9 w26) 40 2 w27) 40 3 w28) = (zuf (zuf (zuf (zuf (zuf (zuf (zuf F 31 7 w18) 31 8 w19) 31 9 w26) 40 1 w3) 40 2 w27) 40 3 w28) 40 4 w25) := zufk_ix F [((31, 7), w0), ((31, 8), w1), ((31, 9), w2), ((40, 1), w3), ((40, 2), w4), ((40, 3), w5), ((40, 4), w6), ((40, 2), w7), ((40, 3), w8), ((40, 4), w9), ((31, 7), w10), ((31, 8), w11), ((40, 2), w12), ((40, 3), w13), ((40, 4), w14), ((40, 2), w15), ((40, 3), w16), ((40, 4), w17), ((31, 7), w18), ((31, 8), w19), ((40, 2), w20), ((40, 3), w21), ((40, 4), w22), ((40, 2), w23), ((40, 3), w24), ((40, 4), w25), ((31, 9), w26), ((40, 2), w27), ((40, 3), w28)] [((31, 7), some 18), ((31, 8), some 19), ((31, 9), some 26), ((40, 1), some 3), ((40, 2), some 27), ((40, 3), some 28), ((40, 4), some 25)] rfl
theorem hF15_lr_read (F : Nat → Nat → Int32) (w0 w1 w2 w3 w4 w5 w6 w7 w8 w9 w10 w11 w12 w13 w14 w15 w16 w17 w18 w19 w20 w21 w22 w23 w24 w25 w26 : Int32) : (zuf (zuf (zuf (zuf (zuf (zuf (zuf (zuf (zuf (zuf (zuf (zuf (zuf (zuf (zuf (zuf (zuf (zuf (zuf (zuf (zuf (zuf (zuf (zuf (zuf (zuf (zuf F 31 7 w0) 31 8 w1) 31 9 w2) 40 1 w3) 40 2 w4) 40 3 w5) 40 4 w6) 40 2 w7) 40 3 w8) 40 4 w9) 31 7 w10) 31 8 w11) 40 2 w12) 40 3 w13) 40 4 w14) 40 2 w15) 40 3 w16) 40 4 w17) 31 7 w18) 31 8 w19) 40 2 w20) 40 3 w21) 40 4 w22) 40 2 w23) 40 3 w24) 40 4 w25) 31 9 w26) = (zuf (zuf (zuf (zuf (zuf (zuf (zuf F 31 7 w18) 31 8 w19) 31 9 w26) 40 1 w3) 40 2 w23) 40 3 w24) 40 4 w25) := zufk_ix F [((31, 7), w0), ((31, 8), w1), ((31, 9), w2), ((40, 1), w3), ((40, 2), w4), ((40, 3), w5), ((40, 4), w6), ((40, 2), w7), ((40, 3), w8), ((40, 4), w9), ((31, 7), w10), ((31, 8), w11), ((40, 2), w12), ((40, 3), w13), ((40, 4), w14), ((40, 2), w15), ((40, 3), w16), ((40, 4), w17), ((31, 7), w18), ((31, 8), w19), ((40, 2), w20), ((40, 3), w21), ((40, 4), w22), ((40, 2), w23), ((40, 3), w24), ((40, 4), w25), ((31, 9), w26)] [((31, 7), some 18), ((31, 8), some 19), ((31, 9), some 26), ((40, 1), some 3), ((40, 2), some 23), ((40, 3), some 24), ((40, 4), some 25)] rfl
theorem hA14_lr_read (F : Nat → Nat → Int32) (w0 w1 w2 w3 w4 w5 w6 w7 w8 w9 w10 w11 w12 w13 : Nat → Int32) : (zua (zua (zua (zua (zua (zua (zua (zua (zua (zua (zua (zua (zua (zua F 32 w0) 33 w1) 35 w2) 36 w3) 37 w4) 38 w5) 35 w6) 36 w7) 32 w8) 33 w9) 37 w10) 32 w11) 33 w12) 38 w13) = (zua (zua (zua (zua (zua (zua F 32 w11) 33 w12) 35 w6) 36 w7) 37 w10) 38 w13) := zuak_ix F [(32, w0), (33, w1), (35, w2), (36, w3), (37, w4), (38, w5), (35, w6), (36, w7), (32, w8), (33, w9), (37, w10), (32, w11), (33, w12), (38, w13)] [(32, some 11), (33, some 12), (35, some 6), (36, some 7), (37, some 10), (38, some 13)] rfl
theorem hF13_lr_read (F : Nat → Nat → Int32) (w0 w1 w2 w3 w4 w5 w6 : Int32) : (zuf (zuf (zuf (zuf (zuf (zuf (zuf F 31 7 w0) 31 8 w1) 31 9 w2) 40 1 w3) 40 2 w4) 40 3 w5) 40 4 w6) = (zuf (zuf (zuf (zuf (zuf (zuf (zuf F 31 7 w0) 31 8 w1) 31 9 w2) 40 1 w3) 40 2 w4) 40 3 w5) 40 4 w6) := zufk_ix F [((31, 7), w0), ((31, 8), w1), ((31, 9), w2), ((40, 1), w3), ((40, 2), w4), ((40, 3), w5), ((40, 4), w6)] [((31, 7), some 0), ((31, 8), some 1), ((31, 9), some 2), ((40, 1), some 3), ((40, 2), some 4), ((40, 3), some 5), ((40, 4), some 6)] rfl
theorem hA12_lr_read (F : Nat → Nat → Int32) (w0 w1 w2 w3 w4 w5 : Nat → Int32) : (zua (zua (zua (zua (zua (zua F 32 w0) 33 w1) 35 w2) 36 w3) 37 w4) 38 w5) = (zua (zua (zua (zua (zua (zua F 32 w0) 33 w1) 35 w2) 36 w3) 37 w4) 38 w5) := zuak_ix F [(32, w0), (33, w1), (35, w2), (36, w3), (37, w4), (38, w5)] [(32, some 0), (33, some 1), (35, some 2), (36, some 3), (37, some 4), (38, some 5)] rfl
theorem hF11_lr_read (F : Nat → Nat → Int32) (w0 w1 w2 w3 w4 w5 w6 : Int32) : (zuf (zuf (zuf (zuf (zuf (zuf (zuf F 40 1 w0) 40 2 w1) 40 3 w2) 40 4 w3) 23 7 w4) 23 8 w5) 23 9 w6) = (zuf (zuf (zuf (zuf (zuf (zuf (zuf F 23 7 w4) 23 8 w5) 23 9 w6) 40 1 w0) 40 2 w1) 40 3 w2) 40 4 w3) := zufk_ix F [((40, 1), w0), ((40, 2), w1), ((40, 3), w2), ((40, 4), w3), ((23, 7), w4), ((23, 8), w5), ((23, 9), w6)] [((23, 7), some 4), ((23, 8), some 5), ((23, 9), some 6), ((40, 1), some 0), ((40, 2), some 1), ((40, 3), some 2), ((40, 4), some 3)] rfl
theorem hA10_lr_read (F : Nat → Nat → Int32) : F = (zua (zua (zua (zua (zua (zua F 24 (F 24)) 25 (F 25)) 27 (F 27)) 28 (F 28)) 29 (F 29)) 30 (F 30)) := zuak_ix F [] [(24, none), (25, none), (27, none), (28, none), (29, none), (30, none)] rfl
theorem hF9_lr_read (F : Nat → Nat → Int32) (w0 w1 w2 w3 w4 w5 w6 w7 w8 w9 w10 w11 w12 w13 w14 w15 w16 w17 w18 w19 w20 w21 w22 : Int32) : (zuf (zuf (zuf (zuf (zuf (zuf (zuf (zuf (zuf (zuf (zuf (zuf (zuf (zuf (zuf (zuf (zuf (zuf (zuf (zuf (zuf (zuf (zuf F 23 7 w0) 23 8 w1) 23 9 w2) 40 1 w3) 40 2 w4) 40 3 w5) 40 4 w6) 40 2 w7) 40 3 w8) 40 4 w9) 40 2 w10) 40 3 w11) 40 4 w12) 23 7 w13) 23 8 w14) 40 2 w15) 40 3 w16) 40 4 w17) 40 2 w18) 40 3 w19) 40 4 w20) 23 9 w21) 40 4 w22) = (zuf (zuf (zuf (zuf (zuf (zuf (zuf F 23 7 w13) 23 8 w14) 23 9 w21) 40 1 w3) 40 2 w18) 40 3 w19) 40 4 w22) := zufk_ix F [((23, 7), w0), ((23, 8), w1), ((23, 9), w2), ((40, 1), w3), ((40, 2), w4), ((40, 3), w5), ((40, 4), w6), ((40, 2), w7), ((40, 3), w8), ((40, 4), w9), ((40, 2), w10), ((40, 3), w11), ((40, 4), w12), ((23, 7), w13), ((23, 8), w14), ((40, 2), w15), ((40, 3), w16), ((40, 4), w17), ((40, 2), w18), ((40, 3), w19), ((40, 4), w20), ((23, 9), w21), ((40, 4), w22)] [((23, 7), some 13), ((23, 8), some 14), ((23, 9), some 21), ((40, 1), some 3), ((40, 2), some 18), ((40, 3), some 19), ((40, 4), some 22)] rfl
theorem hF8_lr_read (F : Nat → Nat → Int32) (w0 w1 w2 w3 w4 w5 w6 w7 w8 w9 w10 w11 w12 w13 w14 w15 w16 w17 w18 w19 w20 w21 w22 w23 : Int32) : (zuf (zuf (zuf (zuf (zuf (zuf (zuf (zuf (zuf (zuf (zuf (zuf (zuf (zuf (zuf (zuf (zuf (zuf (zuf (zuf (zuf (zuf (zuf (zuf F 23 7 w0) 23 8 w1) 23 9 w2) 40 1 w3) 40 2 w4) 40 3 w5) 40 4 w6) 40 2 w7) 40 3 w8) 40 4 w9) 40 2 w10) 40 3 w11) 40 4 w12) 23 7 w13) 23 8 w14) 40 2 w15) 40 3 w16) 40 4 w17) 40 2 w18) 40 3 w19) 40 4 w20) 23 9 w21) 40 2 w22) 40 3 w23) = (zuf (zuf (zuf (zuf (zuf (zuf (zuf F 23 7 w13) 23 8 w14) 23 9 w21) 40 1 w3) 40 2 w22) 40 3 w23) 40 4 w20) := zufk_ix F [((23, 7), w0), ((23, 8), w1), ((23, 9), w2), ((40, 1), w3), ((40, 2), w4), ((40, 3), w5), ((40, 4), w6), ((40, 2), w7), ((40, 3), w8), ((40, 4), w9), ((40, 2), w10), ((40, 3), w11), ((40, 4), w12), ((23, 7), w13), ((23, 8), w14), ((40, 2), w15), ((40, 3), w16), ((40, 4), w17), ((40, 2), w18), ((40, 3), w19), ((40, 4), w20), ((23, 9), w21), ((40, 2), w22), ((40, 3), w23)] [((23, 7), some 13), ((23, 8), some 14), ((23, 9), some 21), ((40, 1), some 3), ((40, 2), some 22), ((40, 3), some 23), ((40, 4), some 20)] rfl
theorem hF7_lr_read (F : Nat → Nat → Int32) (w0 w1 w2 w3 w4 w5 w6 w7 w8 w9 w10 w11 w12 w13 w14 w15 w16 w17 w18 w19 w20 w21 : Int32) : (zuf (zuf (zuf (zuf (zuf (zuf (zuf (zuf (zuf (zuf (zuf (zuf (zuf (zuf (zuf (zuf (zuf (zuf (zuf (zuf (zuf (zuf F 23 7 w0) 23 8 w1) 23 9 w2) 40 1 w3) 40 2 w4) 40 3 w5) 40 4 w6) 40 2 w7) 40 3 w8) 40 4 w9) 40 2 w10) 40 3 w11) 40 4 w12) 23 7 w13) 23 8 w14) 40 2 w15) 40 3 w16) 40 4 w17) 40 2 w18) 40 3 w19) 40 4 w20) 23 9 w21) = (zuf (zuf (zuf (zuf (zuf (zuf (zuf F 23 7 w13) 23 8 w14) 23 9 w21) 40 1 w3) 40 2 w18) 40 3 w19) 40 4 w20) := zufk_ix F [((23, 7), w0), ((23, 8), w1), ((23, 9), w2), ((40, 1), w3), ((40, 2), w4), ((40, 3), w5), ((40, 4), w6), ((40, 2), w7), ((40, 3), w8), ((40, 4), w9), ((40, 2), w10), ((40, 3), w11), ((40, 4), w12), ((23, 7), w13), ((23, 8), w14), ((40, 2), w15), ((40, 3), w16), ((40, 4), w17), ((40, 2), w18), ((40, 3), w19), ((40, 4), w20), ((23, 9), w21)] [((23, 7), some 13), ((23, 8), some 14), ((23, 9), some 21), ((40, 1), some 3), ((40, 2), some 18), ((40, 3), some 19), ((40, 4), some 20)] rfl
theorem hA6_lr_read (F : Nat → Nat → Int32) (w0 w1 w2 w3 w4 w5 w6 w7 w8 w9 w10 w11 : Nat → Int32) : (zua (zua (zua (zua (zua (zua (zua (zua (zua (zua (zua (zua F 24 w0) 25 w1) 27 w2) 28 w3) 29 w4) 30 w5) 27 w6) 28 w7) 29 w8) 24 w9) 25 w10) 30 w11) = (zua (zua (zua (zua (zua (zua F 24 w9) 25 w10) 27 w6) 28 w7) 29 w8) 30 w11) := zuak_ix F [(24, w0), (25, w1), (27, w2), (28, w3), (29, w4), (30, w5), (27, w6), (28, w7), (29, w8), (24, w9), (25, w10), (30, w11)] [(24, some 9), (25, some 10), (27, some 6), (28, some 7), (29, some 8), (30, some 11)] rfl
theorem hF5_lr_read (F : Nat → Nat → Int32) (w0 w1 w2 w3 w4 w5 w6 w7 w8 w9 w10 w11 w12 w13 w14 w15 w16 w17 w18 w19 w20 w21 w22 w23 w24 w25 w26 w27 : Int32) : (zuf (zuf (zuf (zuf (zuf (zuf (zuf (zuf (zuf (zuf (zuf (zuf (zuf (zuf (zuf (zuf (zuf (zuf (zuf (zuf (zuf (zuf (zuf (zuf (zuf (zuf (zuf (zuf F 23 7 w0) 23 8 w1) 23 9 w2) 40 1 w3) 40 2 w4) 40 3 w5) 40 4 w6) 40 2 w7) 40 3 w8) 40 4 w9) 23 7 w10) 23 8 w11) 40 2 w12) 40 3 w13) 40 4 w14) 40 2 w15) 40 3 w16) 40 4 w17) 23 7 w18) 23 8 w19) 40 2 w20) 40 3 w21) 40 4 w22) 40 2 w23) 40 3 w24) 40 4 w25) 23 9 w26) 40 4 w27) = (zuf (zuf (zuf (zuf (zuf (zuf (zuf F 23 7 w18) 23 8 w19) 23 9 w26) 40 1 w3) 40 2 w23) 40 3 w24) 40 4 w27) := zufk_ix F [((23, 7), w0), ((23, 8), w1), ((23, 9), w2), ((40, 1), w3), ((40, 2), w4), ((40, 3), w5), ((40, 4), w6), ((40, 2), w7), ((40, 3), w8), ((40, 4), w9), ((23, 7), w10), ((23, 8), w11), ((40, 2), w12), ((40, 3), w13), ((40, 4), w14), ((40, 2), w15), ((40, 3), w16), ((40, 4), w17), ((23, 7), w18), ((23, 8), w19), ((40, 2), w20), ((40, 3), w21), ((40, 4), w22), ((40, 2), w23), ((40, 3), w24), ((40, 4), w25), ((23, 9), w26), ((40, 4), w27)] [((23, 7), some 18), ((23, 8), some 19), ((23, 9), some 26), ((40, 1), some 3), ((40, 2), some 23), ((40, 3), some 24), ((40, 4), some 27)] rfl
theorem hF4_lr_read (F : Nat → Nat → Int32) (w0 w1 w2 w3 w4 w5 w6 w7 w8 w9 w10 w11 w12 w13 w14 w15 w16 w17 w18 w19 w20 w21 w22 w23 w24 w25 w26 w27 w28 : Int32) : (zuf (zuf (zuf (zuf (zuf (zuf (zuf (zuf (zuf (zuf (zuf (zuf (zuf (zuf (zuf (zuf (zuf (zuf (zuf (zuf (zuf (zuf (zuf (zuf (zuf (zuf (zuf (zuf (zuf F 23 7 w0) 23 8 w1) 23 9 w2) 40 1 w3) 40 2 w4) 40 3 w5) 40 4 w6) 40 2 w7) 40 3 w8) 40 4 w9) 23 7 w10) 23 8 w11) 40 2 w12) 40 3 w13) 40 4 w14) 40 2 w15) 40 3 w16) 40 4 w17) 23 7 w18) 23 8 w19) 40 2 w20) 40 3 w21) 40 4 w22) 40 2 w23) 40 3 w24) 40 4 w25) 23 9 w26) 40 2 w27) 40 3 w28) = (zuf (zuf (zuf (zuf (zuf (zuf (zuf F 23 7 w18) 23 8 w19) 23 9 w26) 40 1 w3) 40 2 w27) 40 3 w28) 40 4 w25) := zufk_ix F [((23, 7), w0), ((23, 8), w1), ((23, 9), w2), ((40, 1), w3), ((40, 2), w4), ((40, 3), w5), ((40, 4), w6), ((40, 2), w7), ((40, 3), w8), ((40, 4), w9), ((23, 7), w10), ((23, 8), w11), ((40, 2), w12), ((40, 3), w13), ((40, 4), w14), ((40, 2), w15), ((40, 3), w16), ((40, 4), w17), ((23, 7), w18), ((23, 8), w19), ((40, 2), w20), ((40, 3), w21), ((40, 4), w22), ((40, 2), w23), ((40, 3), w24), ((40, 4), w25), ((23, 9), w26), ((40, 2), w27), ((40, 3), w28)] [((23, 7), some 18), ((23, 8), some 19), ((23, 9), some 26), ((40, 1), some 3), ((40, 2), some 27), ((40, 3), some 28), ((40, 4), some 25)] rfl
theorem hF3_lr_read (F : Nat → Nat → Int32) (w0 w1 w2 w3 w4 w5 w6 w7 w8 w9 w10 w11 w12 w13 w14 w15 w16 w17 w18 w19 w20 w21 w22 w23 w24 w25 w26 : Int32) : (zuf (zuf (zuf (zuf (zuf (zuf (zuf (zuf (zuf (zuf (zuf (zuf (zuf (zuf (zuf (zuf (zuf (zuf (zuf (zuf (zuf (zuf (zuf (zuf (zuf (zuf (zuf F 23 7 w0) 23 8 w1) 23 9 w2) 40 1 w3) 40 2 w4) 40 3 w5) 40 4 w6) 40 2 w7) 40 3 w8) 40 4 w9) 23 7 w10) 23 8 w11) 40 2 w12) 40 3 w13) 40 4 w14) 40 2 w15) 40 3 w16) 40 4 w17) 23 7 w18) 23 8 w19) 40 2 w20) 40 3 w21) 40 4 w22) 40 2 w23) 40 3 w24) 40 4 w25) 23 9 w26) = (zuf (zuf (zuf (zuf (zuf (zuf (zuf F 23 7 w18) 23 8 w19) 23 9 w26) 40 1 w3) 40 2 w23) 40 3 w24) 40 4 w25) := zufk_ix F [((23, 7), w0), ((23, 8), w1), ((23, 9), w2), ((40, 1), w3), ((40, 2), w4), ((40, 3), w5), ((40, 4), w6), ((40, 2), w7), ((40, 3), w8), ((40, 4), w9), ((23, 7), w10), ((23, 8), w11), ((40, 2), w12), ((40, 3), w13), ((40, 4), w14), ((40, 2), w15), ((40, 3), w16), ((40, 4), w17), ((23, 7), w18), ((23, 8), w19), ((40, 2), w20), ((40, 3), w21), ((40, 4), w22), ((40, 2), w23), ((40, 3), w24), ((40, 4), w25), ((23, 9), w26)] [((23, 7), some 18), ((23, 8), some 19), ((23, 9), some 26), ((40, 1), some 3), ((40, 2), some 23), ((40, 3), some 24), ((40, 4), some 25)] rfl
theorem hA2_lr_read (F : Nat → Nat → Int32) (w0 w1 w2 w3 w4 w5 w6 w7 w8 w9 w10 w11 w12 w13 : Nat → Int32) : (zua (zua (zua (zua (zua (zua (zua (zua (zua (zua (zua (zua (zua (zua F 24 w0) 25 w1) 27 w2) 28 w3) 29 w4) 30 w5) 27 w6) 28 w7) 24 w8) 25 w9) 29 w10) 24 w11) 25 w12) 30 w13) = (zua (zua (zua (zua (zua (zua F 24 w11) 25 w12) 27 w6) 28 w7) 29 w10) 30 w13) := zuak_ix F [(24, w0), (25, w1), (27, w2), (28, w3), (29, w4), (30, w5), (27, w6), (28, w7), (24, w8), (25, w9), (29, w10), (24, w11), (25, w12), (30, w13)] [(24, some 11), (25, some 12), (27, some 6), (28, some 7), (29, some 10), (30, some 13)] rfl
theorem hF1_lr_read (F : Nat → Nat → Int32) (w0 w1 w2 w3 w4 w5 w6 : Int32) : (zuf (zuf (zuf (zuf (zuf (zuf (zuf F 23 7 w0) 23 8 w1) 23 9 w2) 40 1 w3) 40 2 w4) 40 3 w5) 40 4 w6) = (zuf (zuf (zuf (zuf (zuf (zuf (zuf F 23 7 w0) 23 8 w1) 23 9 w2) 40 1 w3) 40 2 w4) 40 3 w5) 40 4 w6) := zufk_ix F [((23, 7), w0), ((23, 8), w1), ((23, 9), w2), ((40, 1), w3), ((40, 2), w4), ((40, 3), w5), ((40, 4), w6)] [((23, 7), some 0), ((23, 8), some 1), ((23, 9), some 2), ((40, 1), some 3), ((40, 2), some 4), ((40, 3), some 5), ((40, 4), some 6)] rfl
theorem hA0_lr_read (F : Nat → Nat → Int32) (w0 w1 w2 w3 w4 w5 : Nat → Int32) : (zua (zua (zua (zua (zua (zua F 24 w0) 25 w1) 27 w2) 28 w3) 29 w4) 30 w5) = (zua (zua (zua (zua (zua (zua F 24 w0) 25 w1) 27 w2) 28 w3) 29 w4) 30 w5) := zuak_ix F [(24, w0), (25, w1), (27, w2), (28, w3), (29, w4), (30, w5)] [(24, some 0), (25, some 1), (27, some 2), (28, some 3), (29, some 4), (30, some 5)] rfl
def O_lr_read_39_1_23 (ar fi : Nat → Nat → Int32) (m1 : Nat) (m2 : Nat) (m3 : Nat) (m4 : Nat) (m5 : Nat) (t : T_lr_read) : zO2 := match t with
  | (t0, t1, t2, t3, t4, t5, t6, t7, t8, t9, t10, t11, t12, t13) => (some (.int (t0)), ((zua (zua (zua (zua (zua (zua ar 24 t1) 25 t2) 27 t3) 28 t4) 29 t5) 30 t6), (zuf (zuf (zuf (zuf (zuf (zuf (zuf fi 23 7 t7) 23 8 t8) 23 9 t9) 40 1 t10) 40 2 t11) 40 3 t12) 40 4 t13), (m1, m2, 1, m4, m5)))
def M_lr_read_19_39_1_23 (X : Nat × (Nat → Int32)) (E : zTE) (ar fi : Nat → Nat → Int32) (m1 : Nat) (m2 : Nat) (m3 : Nat) (m4 : Nat) (m5 : Nat) (y : Int32) (c40_1 : Int32) (o : zO2) (s : U_lr_read_19) : Prop := match s with
  | (l4, l5, b24, b25, b27, b28, b29, b30, c23_7, c23_8, c23_9, c40_2, c40_3, c40_4) => zR2 X zFT E zc_49 19 [.ref 39, .ref 1, .int y, .ref 23, .int l4, .int l5] [] ((zua (zua (zua (zua (zua (zua ar 24 b24) 25 b25) 27 b27) 28 b28) 29 b29) 30 b30), (zuf (zuf (zuf (zuf (zuf (zuf (zuf fi 23 7 c23_7) 23 8 c23_8) 23 9 c23_9) 40 1 c40_1) 40 2 c40_2) 40 3 c40_3) 40 4 c40_4), (m1, m2, 1, m4, m5)) o
set_option maxRecDepth 1000000 in
theorem t19_lr_read_39_1_23 {X : Nat × (Nat → Int32)} {ar fi : Nat → Nat → Int32} {m1 m2 m3 m4 m5 : Nat} {y : Int32} {l4 : Int32} {l5 : Int32} {b24 : Nat → Int32} {b25 : Nat → Int32} {b27 : Nat → Int32} {b28 : Nat → Int32} {b29 : Nat → Int32} {b30 : Nat → Int32} {c23_7 : Int32} {c23_8 : Int32} {c23_9 : Int32} {c40_1 : Int32} {c40_2 : Int32} {c40_3 : Int32} {c40_4 : Int32} {F0_tx_begin : Int32 → Int32} {F1_tx_begin : Int32 → Int32} {F2_tx_begin : Int32 → Int32} {F3_tx_begin : Int32 → Int32} {F0_lw_clear : Int32} {F1_lw_clear : Int32} {F2_lw_clear : Int32} {Q_lr_readLetter : Int32 → (Nat → Int32) → (Nat → Int32) → (Nat → Int32) → Int32 → Int32 → Int32 → Int32 → Int32 → Int32 → Option (Int32 × (Nat → Int32) × (Nat → Int32) × Int32 × Int32 × Int32)} {Q_lr_readAmount : Int32 → (Nat → Int32) → (Nat → Int32) → (Nat → Int32) → Int32 → Int32 → Int32 → Int32 → Int32 → Int32 → Option ((Nat → Int32) × (Nat → Int32) × Int32 × Int32 × Int32 × Int32 × Int32)} {G_lw_beginCondition : Int32 → (Nat → Int32) → Int32 → Bool} {A0_lw_beginCondition : Int32 → (Nat → Int32) → Int32 → Nat → Int32} {G_tx_expect : Int32 → Int32 → Int32 → Int32 → (Nat → Int32) → Int32 → Bool} {F0_tx_expect : Int32 → Int32 → Int32 → Int32 → (Nat → Int32) → Int32 → Int32} {F1_tx_expect : Int32 → Int32 → Int32 → Int32 → (Nat → Int32) → Int32 → Int32} {F2_tx_expect : Int32 → Int32 → Int32 → Int32 → (Nat → Int32) → Int32 → Int32} {Q_lr_readCondition : Int32 → (Nat → Int32) → (Nat → Int32) → (Nat → Int32) → Int32 → Int32 → Int32 → Int32 → Int32 → Int32 → Option ((Nat → Int32) × (Nat → Int32) × Int32 × Int32 × Int32 × Int32 × Int32)} {G_lw_endRule : Int32 → (Nat → Int32) → Int32 → Bool} {A0_lw_endRule : Int32 → (Nat → Int32) → Int32 → Nat → Int32} {F0_lw_endRule : Int32 → (Nat → Int32) → Int32 → Int32} {G_tx_sign : Int32 → Int32 → Int32 → (Nat → Int32) → Bool} {W_tx_sign : Int32 → Int32 → Int32 → (Nat → Int32) → Int32} {F0_tx_skip : Int32 → Int32} {W_tx_isAtEnd : Int32 → Int32 → Int32} {F0_tx_fail : Int32 → Int32 → Int32 → Int32 → Int32} {F1_tx_fail : Int32 → Int32 → Int32 → Int32 → Int32} {W_tx_answerOr : Int32 → Int32 → Int32 → Int32} : zseg X zFT (zEx 90 (P_tx_begin F0_tx_begin F1_tx_begin F2_tx_begin F3_tx_begin) (zEx 36 (P_lw_clear F0_lw_clear F1_lw_clear F2_lw_clear) (zEx 50 (P_lr_readLetter Q_lr_readLetter) (zEx 53 (P_lr_readAmount Q_lr_readAmount) (zEx 38 (P_lw_beginCondition G_lw_beginCondition A0_lw_beginCondition) (zEx 96 (P_tx_expect G_tx_expect F0_tx_expect F1_tx_expect F2_tx_expect) (zEx 51 (P_lr_readCondition Q_lr_readCondition) (zEx 39 (P_lw_endRule G_lw_endRule A0_lw_endRule F0_lw_endRule) (zEx 93 (P_tx_sign G_tx_sign W_tx_sign) (zEx 95 (P_tx_skip F0_tx_skip) (zEx 92 (P_tx_isAtEnd W_tx_isAtEnd) (zEx 97 (P_tx_fail F0_tx_fail F1_tx_fail) (zEx 99 (P_tx_answerOr W_tx_answerOr) zE0))))))))))))) zc_49 (fun p => Nat.beq p 19) 400 19 [.ref 39, .ref 1, .int y, .ref 23, .int l4, .int l5] [] ((zua (zua (zua (zua (zua (zua ar 24 b24) 25 b25) 27 b27) 28 b28) 29 b29) 30 b30), (zuf (zuf (zuf (zuf (zuf (zuf (zuf fi 23 7 c23_7) 23 8 c23_8) 23 9 c23_9) 40 1 c40_1) 40 2 c40_2) 40 3 c40_3) 40 4 c40_4), (m1, m2, 1, m4, m5)) = (
  bif decide (16 < l5) then
   zl (W_tx_answerOr c23_9 c40_2 c40_3) (fun v8 =>
   some (.inr (some (.int v8), ((zua (zua (zua (zua (zua (zua ar 24 b24) 25 b25) 27 b27) 28 b28) 29 b29) 30 b30), (zuf (zuf (zuf (zuf (zuf (zuf (zuf fi 23 7 c23_7) 23 8 c23_8) 23 9 c23_9) 40 1 c40_1) 40 2 c40_2) 40 3 c40_3) 40 4 c40_4), (m1, m2, 1, m4, m5)))))
  else
   bif decide (l4 = 0) then
    zl (W_tx_answerOr c23_9 c40_2 c40_3) (fun v9 =>
    some (.inr (some (.int v9), ((zua (zua (zua (zua (zua (zua ar 24 b24) 25 b25) 27 b27) 28 b28) 29 b29) 30 b30), (zuf (zuf (zuf (zuf (zuf (zuf (zuf fi 23 7 c23_7) 23 8 c23_8) 23 9 c23_9) 40 1 c40_1) 40 2 c40_2) 40 3 c40_3) 40 4 c40_4), (m1, m2, 1, m4, m5)))))
   else
    zl (Q_lr_readLetter l5 (ar 1) b27 b28 c23_7 c23_9 c40_1 c40_2 c40_3 c40_4) (fun v10 => zg v10.isSome (
    bif decide (((zgt v10).1) = 98) then
     zl (Q_lr_readAmount 0 (ar 1) b24 b25 c23_7 c23_8 c40_1 (((zgt v10).2.2.2.1)) (((zgt v10).2.2.2.2.1)) (((zgt v10).2.2.2.2.2))) (fun v11 => zg v11.isSome (
     zg (G_lw_beginCondition c23_9 b29 (((zgt v11).2.2.1))) (
     zl (A0_lw_beginCondition c23_9 b29 (((zgt v11).2.2.1))) (fun v12 =>
     zg (G_tx_expect 40 (((zgt v11).2.2.2.2.1)) (((zgt v11).2.2.2.2.2.2)) c40_1 (ar 1) (((zgt v11).2.2.2.2.2.1))) (
     zl (F0_tx_expect 40 (((zgt v11).2.2.2.2.1)) (((zgt v11).2.2.2.2.2.2)) c40_1 (ar 1) (((zgt v11).2.2.2.2.2.1))) (fun v13 =>
     zl (F1_tx_expect 40 (((zgt v11).2.2.2.2.1)) (((zgt v11).2.2.2.2.2.2)) c40_1 (ar 1) (((zgt v11).2.2.2.2.2.1))) (fun v14 =>
     zl (F2_tx_expect 40 (((zgt v11).2.2.2.2.1)) (((zgt v11).2.2.2.2.2.2)) c40_1 (ar 1) (((zgt v11).2.2.2.2.2.1))) (fun v15 =>
     zl (Q_lr_readCondition 1 (ar 1) (((zgt v11).1)) (((zgt v11).2.1)) (((zgt v11).2.2.1)) (((zgt v11).2.2.2.1)) c40_1 v13 v14 v15) (fun v16 => zg v16.isSome (
     zg (G_tx_expect 41 (((zgt v16).2.2.2.2.1)) (((zgt v16).2.2.2.2.2.2)) c40_1 (ar 1) (((zgt v16).2.2.2.2.2.1))) (
     zl (F0_tx_expect 41 (((zgt v16).2.2.2.2.1)) (((zgt v16).2.2.2.2.2.2)) c40_1 (ar 1) (((zgt v16).2.2.2.2.2.1))) (fun v17 =>
     zl (F1_tx_expect 41 (((zgt v16).2.2.2.2.1)) (((zgt v16).2.2.2.2.2.2)) c40_1 (ar 1) (((zgt v16).2.2.2.2.2.1))) (fun v18 =>
     zl (F2_tx_expect 41 (((zgt v16).2.2.2.2.1)) (((zgt v16).2.2.2.2.2.2)) c40_1 (ar 1) (((zgt v16).2.2.2.2.2.1))) (fun v19 =>
     zg (G_lw_endRule c23_9 b30 (((zgt v16).2.2.1))) (
     zl (A0_lw_endRule c23_9 b30 (((zgt v16).2.2.1))) (fun v20 =>
     zl (F0_lw_endRule c23_9 b30 (((zgt v16).2.2.1))) (fun v21 =>
     zg (G_tx_sign v17 v19 c40_1 (ar 1)) (
     zl (W_tx_sign v17 v19 c40_1 (ar 1)) (fun v22 =>
     bif !decide (v22 = 59) then
      zl (W_tx_isAtEnd v19 c40_1) (fun v23 =>
      bif !decide (v23 = 0) then
       some (.inl (19, [.ref 39, .ref 1, .int y, .ref 23, .int 0, .int (l5 + 1)], [], ((zua (zua (zua (zua (zua (zua (zua (zua (zua (zua (zua (zua (zua (zua ar 24 b24) 25 b25) 27 b27) 28 b28) 29 b29) 30 b30) 27 (((zgt v10).2.1))) 28 (((zgt v10).2.2.1))) 24 (((zgt v11).1))) 25 (((zgt v11).2.1))) 29 v12) 24 (((zgt v16).1))) 25 (((zgt v16).2.1))) 30 v20), (zuf (zuf (zuf (zuf (zuf (zuf (zuf (zuf (zuf (zuf (zuf (zuf (zuf (zuf (zuf (zuf (zuf (zuf (zuf (zuf (zuf (zuf (zuf (zuf (zuf (zuf (zuf fi 23 7 c23_7) 23 8 c23_8) 23 9 c23_9) 40 1 c40_1) 40 2 c40_2) 40 3 c40_3) 40 4 c40_4) 40 2 (((zgt v10).2.2.2.1))) 40 3 (((zgt v10).2.2.2.2.1))) 40 4 (((zgt v10).2.2.2.2.2))) 23 7 (((zgt v11).2.2.1))) 23 8 (((zgt v11).2.2.2.1))) 40 2 (((zgt v11).2.2.2.2.1))) 40 3 (((zgt v11).2.2.2.2.2.1))) 40 4 (((zgt v11).2.2.2.2.2.2))) 40 2 v13) 40 3 v14) 40 4 v15) 23 7 (((zgt v16).2.2.1))) 23 8 (((zgt v16).2.2.2.1))) 40 2 (((zgt v16).2.2.2.2.1))) 40 3 (((zgt v16).2.2.2.2.2.1))) 40 4 (((zgt v16).2.2.2.2.2.2))) 40 2 v17) 40 3 v18) 40 4 v19) 23 9 v21), (m1, m2, 1, m4, m5))))
      else
       zl (F0_tx_fail 1 v19 v17 v18) (fun v24 =>
       zl (F1_tx_fail 1 v19 v17 v18) (fun v25 =>
       some (.inl (19, [.ref 39, .ref 1, .int y, .ref 23, .int 0, .int (l5 + 1)], [], ((zua (zua (zua (zua (zua (zua (zua (zua (zua (zua (zua (zua (zua (zua ar 24 b24) 25 b25) 27 b27) 28 b28) 29 b29) 30 b30) 27 (((zgt v10).2.1))) 28 (((zgt v10).2.2.1))) 24 (((zgt v11).1))) 25 (((zgt v11).2.1))) 29 v12) 24 (((zgt v16).1))) 25 (((zgt v16).2.1))) 30 v20), (zuf (zuf (zuf (zuf (zuf (zuf (zuf (zuf (zuf (zuf (zuf (zuf (zuf (zuf (zuf (zuf (zuf (zuf (zuf (zuf (zuf (zuf (zuf (zuf (zuf (zuf (zuf (zuf (zuf fi 23 7 c23_7) 23 8 c23_8) 23 9 c23_9) 40 1 c40_1) 40 2 c40_2) 40 3 c40_3) 40 4 c40_4) 40 2 (((zgt v10).2.2.2.1))) 40 3 (((zgt v10).2.2.2.2.1))) 40 4 (((zgt v10).2.2.2.2.2))) 23 7 (((zgt v11).2.2.1))) 23 8 (((zgt v11).2.2.2.1))) 40 2 (((zgt v11).2.2.2.2.1))) 40 3 (((zgt v11).2.2.2.2.2.1))) 40 4 (((zgt v11).2.2.2.2.2.2))) 40 2 v13) 40 3 v14) 40 4 v15) 23 7 (((zgt v16).2.2.1))) 23 8 (((zgt v16).2.2.2.1))) 40 2 (((zgt v16).2.2.2.2.1))) 40 3 (((zgt v16).2.2.2.2.2.1))) 40 4 (((zgt v16).2.2.2.2.2.2))) 40 2 v17) 40 3 v18) 40 4 v19) 23 9 v21) 40 2 v24) 40 3 v25), (m1, m2, 1, m4, m5)))))))
     else
      zl (F0_tx_skip v19) (fun v26 =>
      some (.inl (19, [.ref 39, .ref 1, .int y, .ref 23, .int 1, .int (l5 + 1)], [], ((zua (zua (zua (zua (zua (zua (zua (zua (zua (zua (zua (zua (zua (zua ar 24 b24) 25 b25) 27 b27) 28 b28) 29 b29) 30 b30) 27 (((zgt v10).2.1))) 28 (((zgt v10).2.2.1))) 24 (((zgt v11).1))) 25 (((zgt v11).2.1))) 29 v12) 24 (((zgt v16).1))) 25 (((zgt v16).2.1))) 30 v20), (zuf (zuf (zuf (zuf (zuf (zuf (zuf (zuf (zuf (zuf (zuf (zuf (zuf (zuf (zuf (zuf (zuf (zuf (zuf (zuf (zuf (zuf (zuf (zuf (zuf (zuf (zuf (zuf fi 23 7 c23_7) 23 8 c23_8) 23 9 c23_9) 40 1 c40_1) 40 2 c40_2) 40 3 c40_3) 40 4 c40_4) 40 2 (((zgt v10).2.2.2.1))) 40 3 (((zgt v10).2.2.2.2.1))) 40 4 (((zgt v10).2.2.2.2.2))) 23 7 (((zgt v11).2.2.1))) 23 8 (((zgt v11).2.2.2.1))) 40 2 (((zgt v11).2.2.2.2.1))) 40 3 (((zgt v11).2.2.2.2.2.1))) 40 4 (((zgt v11).2.2.2.2.2.2))) 40 2 v13) 40 3 v14) 40 4 v15) 23 7 (((zgt v16).2.2.1))) 23 8 (((zgt v16).2.2.2.1))) 40 2 (((zgt v16).2.2.2.2.1))) 40 3 (((zgt v16).2.2.2.2.2.1))) 40 4 (((zgt v16).2.2.2.2.2.2))) 40 2 v17) 40 3 v18) 40 4 v19) 23 9 v21) 40 4 v26), (m1, m2, 1, m4, m5))))))))))))))))))))))))
    else
     bif !decide (((zgt v10).1) = 115) then
      zg (G_lw_beginCondition c23_9 b29 c23_7) (
      zl (A0_lw_beginCondition c23_9 b29 c23_7) (fun v27 =>
      zg (G_tx_expect 40 (((zgt v10).2.2.2.1)) (((zgt v10).2.2.2.2.2)) c40_1 (ar 1) (((zgt v10).2.2.2.2.1))) (
      zl (F0_tx_expect 40 (((zgt v10).2.2.2.1)) (((zgt v10).2.2.2.2.2)) c40_1 (ar 1) (((zgt v10).2.2.2.2.1))) (fun v28 =>
      zl (F1_tx_expect 40 (((zgt v10).2.2.2.1)) (((zgt v10).2.2.2.2.2)) c40_1 (ar 1) (((zgt v10).2.2.2.2.1))) (fun v29 =>
      zl (F2_tx_expect 40 (((zgt v10).2.2.2.1)) (((zgt v10).2.2.2.2.2)) c40_1 (ar 1) (((zgt v10).2.2.2.2.1))) (fun v30 =>
      zl (Q_lr_readCondition 1 (ar 1) b24 b25 c23_7 c23_8 c40_1 v28 v29 v30) (fun v31 => zg v31.isSome (
      zg (G_tx_expect 41 (((zgt v31).2.2.2.2.1)) (((zgt v31).2.2.2.2.2.2)) c40_1 (ar 1) (((zgt v31).2.2.2.2.2.1))) (
      zl (F0_tx_expect 41 (((zgt v31).2.2.2.2.1)) (((zgt v31).2.2.2.2.2.2)) c40_1 (ar 1) (((zgt v31).2.2.2.2.2.1))) (fun v32 =>
      zl (F1_tx_expect 41 (((zgt v31).2.2.2.2.1)) (((zgt v31).2.2.2.2.2.2)) c40_1 (ar 1) (((zgt v31).2.2.2.2.2.1))) (fun v33 =>
      zl (F2_tx_expect 41 (((zgt v31).2.2.2.2.1)) (((zgt v31).2.2.2.2.2.2)) c40_1 (ar 1) (((zgt v31).2.2.2.2.2.1))) (fun v34 =>
      zg (G_lw_endRule c23_9 b30 (((zgt v31).2.2.1))) (
      zl (A0_lw_endRule c23_9 b30 (((zgt v31).2.2.1))) (fun v35 =>
      zl (F0_lw_endRule c23_9 b30 (((zgt v31).2.2.1))) (fun v36 =>
      zg (G_tx_sign v32 v34 c40_1 (ar 1)) (
      zl (W_tx_sign v32 v34 c40_1 (ar 1)) (fun v37 =>
      bif !decide (v37 = 59) then
       zl (W_tx_isAtEnd v34 c40_1) (fun v38 =>
       bif !decide (v38 = 0) then
        some (.inl (19, [.ref 39, .ref 1, .int y, .ref 23, .int 0, .int (l5 + 1)], [], ((zua (zua (zua (zua (zua (zua (zua (zua (zua (zua (zua (zua ar 24 b24) 25 b25) 27 b27) 28 b28) 29 b29) 30 b30) 27 (((zgt v10).2.1))) 28 (((zgt v10).2.2.1))) 29 v27) 24 (((zgt v31).1))) 25 (((zgt v31).2.1))) 30 v35), (zuf (zuf (zuf (zuf (zuf (zuf (zuf (zuf (zuf (zuf (zuf (zuf (zuf (zuf (zuf (zuf (zuf (zuf (zuf (zuf (zuf (zuf fi 23 7 c23_7) 23 8 c23_8) 23 9 c23_9) 40 1 c40_1) 40 2 c40_2) 40 3 c40_3) 40 4 c40_4) 40 2 (((zgt v10).2.2.2.1))) 40 3 (((zgt v10).2.2.2.2.1))) 40 4 (((zgt v10).2.2.2.2.2))) 40 2 v28) 40 3 v29) 40 4 v30) 23 7 (((zgt v31).2.2.1))) 23 8 (((zgt v31).2.2.2.1))) 40 2 (((zgt v31).2.2.2.2.1))) 40 3 (((zgt v31).2.2.2.2.2.1))) 40 4 (((zgt v31).2.2.2.2.2.2))) 40 2 v32) 40 3 v33) 40 4 v34) 23 9 v36), (m1, m2, 1, m4, m5))))
       else
        zl (F0_tx_fail 1 v34 v32 v33) (fun v39 =>
        zl (F1_tx_fail 1 v34 v32 v33) (fun v40 =>
        some (.inl (19, [.ref 39, .ref 1, .int y, .ref 23, .int 0, .int (l5 + 1)], [], ((zua (zua (zua (zua (zua (zua (zua (zua (zua (zua (zua (zua ar 24 b24) 25 b25) 27 b27) 28 b28) 29 b29) 30 b30) 27 (((zgt v10).2.1))) 28 (((zgt v10).2.2.1))) 29 v27) 24 (((zgt v31).1))) 25 (((zgt v31).2.1))) 30 v35), (zuf (zuf (zuf (zuf (zuf (zuf (zuf (zuf (zuf (zuf (zuf (zuf (zuf (zuf (zuf (zuf (zuf (zuf (zuf (zuf (zuf (zuf (zuf (zuf fi 23 7 c23_7) 23 8 c23_8) 23 9 c23_9) 40 1 c40_1) 40 2 c40_2) 40 3 c40_3) 40 4 c40_4) 40 2 (((zgt v10).2.2.2.1))) 40 3 (((zgt v10).2.2.2.2.1))) 40 4 (((zgt v10).2.2.2.2.2))) 40 2 v28) 40 3 v29) 40 4 v30) 23 7 (((zgt v31).2.2.1))) 23 8 (((zgt v31).2.2.2.1))) 40 2 (((zgt v31).2.2.2.2.1))) 40 3 (((zgt v31).2.2.2.2.2.1))) 40 4 (((zgt v31).2.2.2.2.2.2))) 40 2 v32) 40 3 v33) 40 4 v34) 23 9 v36) 40 2 v39) 40 3 v40), (m1, m2, 1, m4, m5)))))))
      else
       zl (F0_tx_skip v34) (fun v41 =>
       some (.inl (19, [.ref 39, .ref 1, .int y, .ref 23, .int 1, .int (l5 + 1)], [], ((zua (zua (zua (zua (zua (zua (zua (zua (zua (zua (zua (zua ar 24 b24) 25 b25) 27 b27) 28 b28) 29 b29) 30 b30) 27 (((zgt v10).2.1))) 28 (((zgt v10).2.2.1))) 29 v27) 24 (((zgt v31).1))) 25 (((zgt v31).2.1))) 30 v35), (zuf (zuf (zuf (zuf (zuf (zuf (zuf (zuf (zuf (zuf (zuf (zuf (zuf (zuf (zuf (zuf (zuf (zuf (zuf (zuf (zuf (zuf (zuf fi 23 7 c23_7) 23 8 c23_8) 23 9 c23_9) 40 1 c40_1) 40 2 c40_2) 40 3 c40_3) 40 4 c40_4) 40 2 (((zgt v10).2.2.2.1))) 40 3 (((zgt v10).2.2.2.2.1))) 40 4 (((zgt v10).2.2.2.2.2))) 40 2 v28) 40 3 v29) 40 4 v30) 23 7 (((zgt v31).2.2.1))) 23 8 (((zgt v31).2.2.2.1))) 40 2 (((zgt v31).2.2.2.2.1))) 40 3 (((zgt v31).2.2.2.2.2.1))) 40 4 (((zgt v31).2.2.2.2.2.2))) 40 2 v32) 40 3 v33) 40 4 v34) 23 9 v36) 40 4 v41), (m1, m2, 1, m4, m5))))))))))))))))))))))
     else
      zl (Q_lr_readAmount 0 (ar 1) b24 b25 c23_7 c23_8 c40_1 (((zgt v10).2.2.2.1)) (((zgt v10).2.2.2.2.1)) (((zgt v10).2.2.2.2.2))) (fun v42 => zg v42.isSome (
      zg (G_lw_beginCondition c23_9 b29 (((zgt v42).2.2.1))) (
      zl (A0_lw_beginCondition c23_9 b29 (((zgt v42).2.2.1))) (fun v43 =>
      zg (G_tx_expect 40 (((zgt v42).2.2.2.2.1)) (((zgt v42).2.2.2.2.2.2)) c40_1 (ar 1) (((zgt v42).2.2.2.2.2.1))) (
      zl (F0_tx_expect 40 (((zgt v42).2.2.2.2.1)) (((zgt v42).2.2.2.2.2.2)) c40_1 (ar 1) (((zgt v42).2.2.2.2.2.1))) (fun v44 =>
      zl (F1_tx_expect 40 (((zgt v42).2.2.2.2.1)) (((zgt v42).2.2.2.2.2.2)) c40_1 (ar 1) (((zgt v42).2.2.2.2.2.1))) (fun v45 =>
      zl (F2_tx_expect 40 (((zgt v42).2.2.2.2.1)) (((zgt v42).2.2.2.2.2.2)) c40_1 (ar 1) (((zgt v42).2.2.2.2.2.1))) (fun v46 =>
      zl (Q_lr_readCondition 1 (ar 1) (((zgt v42).1)) (((zgt v42).2.1)) (((zgt v42).2.2.1)) (((zgt v42).2.2.2.1)) c40_1 v44 v45 v46) (fun v47 => zg v47.isSome (
      zg (G_tx_expect 41 (((zgt v47).2.2.2.2.1)) (((zgt v47).2.2.2.2.2.2)) c40_1 (ar 1) (((zgt v47).2.2.2.2.2.1))) (
      zl (F0_tx_expect 41 (((zgt v47).2.2.2.2.1)) (((zgt v47).2.2.2.2.2.2)) c40_1 (ar 1) (((zgt v47).2.2.2.2.2.1))) (fun v48 =>
      zl (F1_tx_expect 41 (((zgt v47).2.2.2.2.1)) (((zgt v47).2.2.2.2.2.2)) c40_1 (ar 1) (((zgt v47).2.2.2.2.2.1))) (fun v49 =>
      zl (F2_tx_expect 41 (((zgt v47).2.2.2.2.1)) (((zgt v47).2.2.2.2.2.2)) c40_1 (ar 1) (((zgt v47).2.2.2.2.2.1))) (fun v50 =>
      zg (G_lw_endRule c23_9 b30 (((zgt v47).2.2.1))) (
      zl (A0_lw_endRule c23_9 b30 (((zgt v47).2.2.1))) (fun v51 =>
      zl (F0_lw_endRule c23_9 b30 (((zgt v47).2.2.1))) (fun v52 =>
      zg (G_tx_sign v48 v50 c40_1 (ar 1)) (
      zl (W_tx_sign v48 v50 c40_1 (ar 1)) (fun v53 =>
      bif !decide (v53 = 59) then
       zl (W_tx_isAtEnd v50 c40_1) (fun v54 =>
       bif !decide (v54 = 0) then
        some (.inl (19, [.ref 39, .ref 1, .int y, .ref 23, .int 0, .int (l5 + 1)], [], ((zua (zua (zua (zua (zua (zua (zua (zua (zua (zua (zua (zua (zua (zua ar 24 b24) 25 b25) 27 b27) 28 b28) 29 b29) 30 b30) 27 (((zgt v10).2.1))) 28 (((zgt v10).2.2.1))) 24 (((zgt v42).1))) 25 (((zgt v42).2.1))) 29 v43) 24 (((zgt v47).1))) 25 (((zgt v47).2.1))) 30 v51), (zuf (zuf (zuf (zuf (zuf (zuf (zuf (zuf (zuf (zuf (zuf (zuf (zuf (zuf (zuf (zuf (zuf (zuf (zuf (zuf (zuf (zuf (zuf (zuf (zuf (zuf (zuf fi 23 7 c23_7) 23 8 c23_8) 23 9 c23_9) 40 1 c40_1) 40 2 c40_2) 40 3 c40_3) 40 4 c40_4) 40 2 (((zgt v10).2.2.2.1))) 40 3 (((zgt v10).2.2.2.2.1))) 40 4 (((zgt v10).2.2.2.2.2))) 23 7 (((zgt v42).2.2.1))) 23 8 (((zgt v42).2.2.2.1))) 40 2 (((zgt v42).2.2.2.2.1))) 40 3 (((zgt v42).2.2.2.2.2.1))) 40 4 (((zgt v42).2.2.2.2.2.2))) 40 2 v44) 40 3 v45) 40 4 v46) 23 7 (((zgt v47).2.2.1))) 23 8 (((zgt v47).2.2.2.1))) 40 2 (((zgt v47).2.2.2.2.1))) 40 3 (((zgt v47).2.2.2.2.2.1))) 40 4 (((zgt v47).2.2.2.2.2.2))) 40 2 v48) 40 3 v49) 40 4 v50) 23 9 v52), (m1, m2, 1, m4, m5))))
       else
        zl (F0_tx_fail 1 v50 v48 v49) (fun v55 =>
        zl (F1_tx_fail 1 v50 v48 v49) (fun v56 =>
        some (.inl (19, [.ref 39, .ref 1, .int y, .ref 23, .int 0, .int (l5 + 1)], [], ((zua (zua (zua (zua (zua (zua (zua (zua (zua (zua (zua (zua (zua (zua ar 24 b24) 25 b25) 27 b27) 28 b28) 29 b29) 30 b30) 27 (((zgt v10).2.1))) 28 (((zgt v10).2.2.1))) 24 (((zgt v42).1))) 25 (((zgt v42).2.1))) 29 v43) 24 (((zgt v47).1))) 25 (((zgt v47).2.1))) 30 v51), (zuf (zuf (zuf (zuf (zuf (zuf (zuf (zuf (zuf (zuf (zuf (zuf (zuf (zuf (zuf (zuf (zuf (zuf (zuf (zuf (zuf (zuf (zuf (zuf (zuf (zuf (zuf (zuf (zuf fi 23 7 c23_7) 23 8 c23_8) 23 9 c23_9) 40 1 c40_1) 40 2 c40_2) 40 3 c40_3) 40 4 c40_4) 40 2 (((zgt v10).2.2.2.1))) 40 3 (((zgt v10).2.2.2.2.1))) 40 4 (((zgt v10).2.2.2.2.2))) 23 7 (((zgt v42).2.2.1))) 23 8 (((zgt v42).2.2.2.1))) 40 2 (((zgt v42).2.2.2.2.1))) 40 3 (((zgt v42).2.2.2.2.2.1))) 40 4 (((zgt v42).2.2.2.2.2.2))) 40 2 v44) 40 3 v45) 40 4 v46) 23 7 (((zgt v47).2.2.1))) 23 8 (((zgt v47).2.2.2.1))) 40 2 (((zgt v47).2.2.2.2.1))) 40 3 (((zgt v47).2.2.2.2.2.1))) 40 4 (((zgt v47).2.2.2.2.2.2))) 40 2 v48) 40 3 v49) 40 4 v50) 23 9 v52) 40 2 v55) 40 3 v56), (m1, m2, 1, m4, m5)))))))
      else
       zl (F0_tx_skip v50) (fun v57 =>
       some (.inl (19, [.ref 39, .ref 1, .int y, .ref 23, .int 1, .int (l5 + 1)], [], ((zua (zua (zua (zua (zua (zua (zua (zua (zua (zua (zua (zua (zua (zua ar 24 b24) 25 b25) 27 b27) 28 b28) 29 b29) 30 b30) 27 (((zgt v10).2.1))) 28 (((zgt v10).2.2.1))) 24 (((zgt v42).1))) 25 (((zgt v42).2.1))) 29 v43) 24 (((zgt v47).1))) 25 (((zgt v47).2.1))) 30 v51), (zuf (zuf (zuf (zuf (zuf (zuf (zuf (zuf (zuf (zuf (zuf (zuf (zuf (zuf (zuf (zuf (zuf (zuf (zuf (zuf (zuf (zuf (zuf (zuf (zuf (zuf (zuf (zuf fi 23 7 c23_7) 23 8 c23_8) 23 9 c23_9) 40 1 c40_1) 40 2 c40_2) 40 3 c40_3) 40 4 c40_4) 40 2 (((zgt v10).2.2.2.1))) 40 3 (((zgt v10).2.2.2.2.1))) 40 4 (((zgt v10).2.2.2.2.2))) 23 7 (((zgt v42).2.2.1))) 23 8 (((zgt v42).2.2.2.1))) 40 2 (((zgt v42).2.2.2.2.1))) 40 3 (((zgt v42).2.2.2.2.2.1))) 40 4 (((zgt v42).2.2.2.2.2.2))) 40 2 v44) 40 3 v45) 40 4 v46) 23 7 (((zgt v47).2.2.1))) 23 8 (((zgt v47).2.2.2.1))) 40 2 (((zgt v47).2.2.2.2.1))) 40 3 (((zgt v47).2.2.2.2.2.1))) 40 4 (((zgt v47).2.2.2.2.2.2))) 40 2 v48) 40 3 v49) 40 4 v50) 23 9 v52) 40 4 v57), (m1, m2, 1, m4, m5)))))))))))))))))))))))))) : Option ((Nat × List Value × List Value × zH2) ⊕ zO2)) := by with_unfolding_all rfl
set_option maxRecDepth 20000 in
theorem k_lr_read_19_39_1_23 {X : Nat × (Nat → Int32)} {ar fi : Nat → Nat → Int32} {m1 m2 m3 m4 m5 : Nat} {y : Int32} {c40_1 : Int32} {o : zO2} : ∀ (s : U_lr_read_19) (q : U_lr_read_19 ⊕ T_lr_read), f_lr_read_19 (ar 1) c40_1 s = some q → zq (M_lr_read_19_39_1_23 X (zEx 90 S_tx_begin (zEx 36 S_lw_clear (zEx 50 S_lr_readLetter (zEx 53 S_lr_readAmount (zEx 38 S_lw_beginCondition (zEx 96 S_tx_expect (zEx 51 S_lr_readCondition (zEx 39 S_lw_endRule (zEx 93 S_tx_sign (zEx 95 S_tx_skip (zEx 92 S_tx_isAtEnd (zEx 97 S_tx_fail (zEx 99 S_tx_answerOr zE0))))))))))))) ar fi m1 m2 m3 m4 m5 y c40_1 o) (fun t => O_lr_read_39_1_23 ar fi m1 m2 m3 m4 m5 t = o) q → M_lr_read_19_39_1_23 X (zEx 90 S_tx_begin (zEx 36 S_lw_clear (zEx 50 S_lr_readLetter (zEx 53 S_lr_readAmount (zEx 38 S_lw_beginCondition (zEx 96 S_tx_expect (zEx 51 S_lr_readCondition (zEx 39 S_lw_endRule (zEx 93 S_tx_sign (zEx 95 S_tx_skip (zEx 92 S_tx_isAtEnd (zEx 97 S_tx_fail (zEx 99 S_tx_answerOr zE0))))))))))))) ar fi m1 m2 m3 m4 m5 y c40_1 o s := by
  intro s q h hq
  obtain ⟨l4, l5, b24, b25, b27, b28, b29, b30, c23_7, c23_8, c23_9, c40_2, c40_3, c40_4⟩ := s
  have h : b_lr_read_19 (ar 1) c40_1 l4 l5 b24 b25 b27 b28 b29 b30 c23_7 c23_8 c23_9 c40_2 c40_3 c40_4 = some q := h
  unfold b_lr_read_19 at h
  show zR2 X zFT (zEx 90 S_tx_begin (zEx 36 S_lw_clear (zEx 50 S_lr_readLetter (zEx 53 S_lr_readAmount (zEx 38 S_lw_beginCondition (zEx 96 S_tx_expect (zEx 51 S_lr_readCondition (zEx 39 S_lw_endRule (zEx 93 S_tx_sign (zEx 95 S_tx_skip (zEx 92 S_tx_isAtEnd (zEx 97 S_tx_fail (zEx 99 S_tx_answerOr zE0))))))))))))) zc_49 19 [.ref 39, .ref 1, .int y, .ref 23, .int l4, .int l5] [] ((zua (zua (zua (zua (zua (zua ar 24 b24) 25 b25) 27 b27) 28 b28) 29 b29) 30 b30), (zuf (zuf (zuf (zuf (zuf (zuf (zuf fi 23 7 c23_7) 23 8 c23_8) 23 9 c23_9) 40 1 c40_1) 40 2 c40_2) 40 3 c40_3) 40 4 c40_4), (m1, m2, 1, m4, m5)) o
  refine zT_seg (t19_lr_read_39_1_23 (m3 := m3)) ?_
  obtain ⟨TT, hTT⟩ : ∃ T, T = zT X zFT (zEx 90 S_tx_begin (zEx 36 S_lw_clear (zEx 50 S_lr_readLetter (zEx 53 S_lr_readAmount (zEx 38 S_lw_beginCondition (zEx 96 S_tx_expect (zEx 51 S_lr_readCondition (zEx 39 S_lw_endRule (zEx 93 S_tx_sign (zEx 95 S_tx_skip (zEx 92 S_tx_isAtEnd (zEx 97 S_tx_fail (zEx 99 S_tx_answerOr zE0))))))))))))) zc_49 o := ⟨_, rfl⟩
  rw [← hTT]
  refine zb_el h (fun hb h => zU_t hTT hb ?_) (fun hb h => zU_f hTT hb ?_)
  · refine zl_el h (fun h => zU_l hTT ?_)
    rw [hTT]
    have hz := zsi h hq
    refine (zO_mk ?_ ?_).trans hz
    · first | with_reducible rfl | exact hA0_lr_read _ _ _ _ _ _ _
    · first | with_reducible rfl | exact hF1_lr_read _ _ _ _ _ _ _ _
  · refine zb_el h (fun hb h => zU_t hTT hb ?_) (fun hb h => zU_f hTT hb ?_)
    · refine zl_el h (fun h => zU_l hTT ?_)
      rw [hTT]
      have hz := zsi h hq
      refine (zO_mk ?_ ?_).trans hz
      · first | with_reducible rfl | exact hA0_lr_read _ _ _ _ _ _ _
      · first | with_reducible rfl | exact hF1_lr_read _ _ _ _ _ _ _ _
    · refine zbd_el h (fun v10 hv h => zU_c hTT hv ?_)
      refine zb_el h (fun hb h => zU_t hTT hb ?_) (fun hb h => zU_f hTT hb ?_)
      · refine zbd_el h (fun v11 hv h => zU_c hTT hv ?_)
        refine zg_el h (fun hg h => zU_g hTT hg ?_)
        refine zl_el h (fun h => zU_l hTT ?_)
        refine zg_el h (fun hg h => zU_g hTT hg ?_)
        refine zl_el h (fun h => zU_l hTT ?_)
        refine zl_el h (fun h => zU_l hTT ?_)
        refine zl_el h (fun h => zU_l hTT ?_)
        refine zbd_el h (fun v16 hv h => zU_c hTT hv ?_)
        refine zg_el h (fun hg h => zU_g hTT hg ?_)
        refine zl_el h (fun h => zU_l hTT ?_)
        refine zl_el h (fun h => zU_l hTT ?_)
        refine zl_el h (fun h => zU_l hTT ?_)
        refine zg_el h (fun hg h => zU_g hTT hg ?_)
        refine zl_el h (fun h => zU_l hTT ?_)
        refine zl_el h (fun h => zU_l hTT ?_)
        refine zg_el h (fun hg h => zU_g hTT hg ?_)
        refine zl_el h (fun h => zU_l hTT ?_)
        refine zb_el h (fun hb h => zU_t hTT hb ?_) (fun hb h => zU_f hTT hb ?_)
        · refine zl_el h (fun h => zU_l hTT ?_)
          refine zb_el h (fun hb h => zU_t hTT hb ?_) (fun hb h => zU_f hTT hb ?_)
          · rw [hTT]
            have hz := zsi h hq
            refine zR2_hp ?_ ?_ hz
            · first | with_reducible rfl | exact hA2_lr_read _ _ _ _ _ _ _ _ _ _ _ _ _ _ _
            · first | with_reducible rfl | exact hF3_lr_read _ _ _ _ _ _ _ _ _ _ _ _ _ _ _ _ _ _ _ _ _ _ _ _ _ _ _ _
          · refine zl_el h (fun h => zU_l hTT ?_)
            refine zl_el h (fun h => zU_l hTT ?_)
            rw [hTT]
            have hz := zsi h hq
            refine zR2_hp ?_ ?_ hz
            · first | with_reducible rfl | exact hA2_lr_read _ _ _ _ _ _ _ _ _ _ _ _ _ _ _
            · first | with_reducible rfl | exact hF4_lr_read _ _ _ _ _ _ _ _ _ _ _ _ _ _ _ _ _ _ _ _ _ _ _ _ _ _ _ _ _ _
        · refine zl_el h (fun h => zU_l hTT ?_)
          rw [hTT]
          have hz := zsi h hq
          refine zR2_hp ?_ ?_ hz
          · first | with_reducible rfl | exact hA2_lr_read _ _ _ _ _ _ _ _ _ _ _ _ _ _ _
          · first | with_reducible rfl | exact hF5_lr_read _ _ _ _ _ _ _ _ _ _ _ _ _ _ _ _ _ _ _ _ _ _ _ _ _ _ _ _ _
      · refine zb_el h (fun hb h => zU_t hTT hb ?_) (fun hb h => zU_f hTT hb ?_)
        · refine zg_el h (fun hg h => zU_g hTT hg ?_)
          refine zl_el h (fun h => zU_l hTT ?_)
          refine zg_el h (fun hg h => zU_g hTT hg ?_)
          refine zl_el h (fun h => zU_l hTT ?_)
          refine zl_el h (fun h => zU_l hTT ?_)
          refine zl_el h (fun h => zU_l hTT ?_)
          refine zbd_el h (fun v31 hv h => zU_c hTT hv ?_)
          refine zg_el h (fun hg h => zU_g hTT hg ?_)
          refine zl_el h (fun h => zU_l hTT ?_)
          refine zl_el h (fun h => zU_l hTT ?_)
          refine zl_el h (fun h => zU_l hTT ?_)
          refine zg_el h (fun hg h => zU_g hTT hg ?_)
          refine zl_el h (fun h => zU_l hTT ?_)
          refine zl_el h (fun h => zU_l hTT ?_)
          refine zg_el h (fun hg h => zU_g hTT hg ?_)
          refine zl_el h (fun h => zU_l hTT ?_)
          refine zb_el h (fun hb h => zU_t hTT hb ?_) (fun hb h => zU_f hTT hb ?_)
          · refine zl_el h (fun h => zU_l hTT ?_)
            refine zb_el h (fun hb h => zU_t hTT hb ?_) (fun hb h => zU_f hTT hb ?_)
            · rw [hTT]
              have hz := zsi h hq
              refine zR2_hp ?_ ?_ hz
              · first | with_reducible rfl | exact hA6_lr_read _ _ _ _ _ _ _ _ _ _ _ _ _
              · first | with_reducible rfl | exact hF7_lr_read _ _ _ _ _ _ _ _ _ _ _ _ _ _ _ _ _ _ _ _ _ _ _
            · refine zl_el h (fun h => zU_l hTT ?_)
              refine zl_el h (fun h => zU_l hTT ?_)
              rw [hTT]
              have hz := zsi h hq
              refine zR2_hp ?_ ?_ hz
              · first | with_reducible rfl | exact hA6_lr_read _ _ _ _ _ _ _ _ _ _ _ _ _
              · first | with_reducible rfl | exact hF8_lr_read _ _ _ _ _ _ _ _ _ _ _ _ _ _ _ _ _ _ _ _ _ _ _ _ _
          · refine zl_el h (fun h => zU_l hTT ?_)
            rw [hTT]
            have hz := zsi h hq
            refine zR2_hp ?_ ?_ hz
            · first | with_reducible rfl | exact hA6_lr_read _ _ _ _ _ _ _ _ _ _ _ _ _
            · first | with_reducible rfl | exact hF9_lr_read _ _ _ _ _ _ _ _ _ _ _ _ _ _ _ _ _ _ _ _ _ _ _ _
        · refine zbd_el h (fun v42 hv h => zU_c hTT hv ?_)
          refine zg_el h (fun hg h => zU_g hTT hg ?_)
          refine zl_el h (fun h => zU_l hTT ?_)
          refine zg_el h (fun hg h => zU_g hTT hg ?_)
          refine zl_el h (fun h => zU_l hTT ?_)
          refine zl_el h (fun h => zU_l hTT ?_)
          refine zl_el h (fun h => zU_l hTT ?_)
          refine zbd_el h (fun v47 hv h => zU_c hTT hv ?_)
          refine zg_el h (fun hg h => zU_g hTT hg ?_)
          refine zl_el h (fun h => zU_l hTT ?_)
          refine zl_el h (fun h => zU_l hTT ?_)
          refine zl_el h (fun h => zU_l hTT ?_)
          refine zg_el h (fun hg h => zU_g hTT hg ?_)
          refine zl_el h (fun h => zU_l hTT ?_)
          refine zl_el h (fun h => zU_l hTT ?_)
          refine zg_el h (fun hg h => zU_g hTT hg ?_)
          refine zl_el h (fun h => zU_l hTT ?_)
          refine zb_el h (fun hb h => zU_t hTT hb ?_) (fun hb h => zU_f hTT hb ?_)
          · refine zl_el h (fun h => zU_l hTT ?_)
            refine zb_el h (fun hb h => zU_t hTT hb ?_) (fun hb h => zU_f hTT hb ?_)
            · rw [hTT]
              have hz := zsi h hq
              refine zR2_hp ?_ ?_ hz
              · first | with_reducible rfl | exact hA2_lr_read _ _ _ _ _ _ _ _ _ _ _ _ _ _ _
              · first | with_reducible rfl | exact hF3_lr_read _ _ _ _ _ _ _ _ _ _ _ _ _ _ _ _ _ _ _ _ _ _ _ _ _ _ _ _
            · refine zl_el h (fun h => zU_l hTT ?_)
              refine zl_el h (fun h => zU_l hTT ?_)
              rw [hTT]
              have hz := zsi h hq
              refine zR2_hp ?_ ?_ hz
              · first | with_reducible rfl | exact hA2_lr_read _ _ _ _ _ _ _ _ _ _ _ _ _ _ _
              · first | with_reducible rfl | exact hF4_lr_read _ _ _ _ _ _ _ _ _ _ _ _ _ _ _ _ _ _ _ _ _ _ _ _ _ _ _ _ _ _
          · refine zl_el h (fun h => zU_l hTT ?_)
            rw [hTT]
            have hz := zsi h hq
            refine zR2_hp ?_ ?_ hz
            · first | with_reducible rfl | exact hA2_lr_read _ _ _ _ _ _ _ _ _ _ _ _ _ _ _
            · first | with_reducible rfl | exact hF5_lr_read _ _ _ _ _ _ _ _ _ _ _ _ _ _ _ _ _ _ _ _ _ _ _ _ _ _ _ _ _
set_option maxRecDepth 1000000 in
theorem t_lr_read_39_1_23 {X : Nat × (Nat → Int32)} {ar fi : Nat → Nat → Int32} {m1 m2 m3 m4 m5 : Nat} {y : Int32} {F0_tx_begin : Int32 → Int32} {F1_tx_begin : Int32 → Int32} {F2_tx_begin : Int32 → Int32} {F3_tx_begin : Int32 → Int32} {F0_lw_clear : Int32} {F1_lw_clear : Int32} {F2_lw_clear : Int32} {Q_lr_readLetter : Int32 → (Nat → Int32) → (Nat → Int32) → (Nat → Int32) → Int32 → Int32 → Int32 → Int32 → Int32 → Int32 → Option (Int32 × (Nat → Int32) × (Nat → Int32) × Int32 × Int32 × Int32)} {Q_lr_readAmount : Int32 → (Nat → Int32) → (Nat → Int32) → (Nat → Int32) → Int32 → Int32 → Int32 → Int32 → Int32 → Int32 → Option ((Nat → Int32) × (Nat → Int32) × Int32 × Int32 × Int32 × Int32 × Int32)} {G_lw_beginCondition : Int32 → (Nat → Int32) → Int32 → Bool} {A0_lw_beginCondition : Int32 → (Nat → Int32) → Int32 → Nat → Int32} {G_tx_expect : Int32 → Int32 → Int32 → Int32 → (Nat → Int32) → Int32 → Bool} {F0_tx_expect : Int32 → Int32 → Int32 → Int32 → (Nat → Int32) → Int32 → Int32} {F1_tx_expect : Int32 → Int32 → Int32 → Int32 → (Nat → Int32) → Int32 → Int32} {F2_tx_expect : Int32 → Int32 → Int32 → Int32 → (Nat → Int32) → Int32 → Int32} {Q_lr_readCondition : Int32 → (Nat → Int32) → (Nat → Int32) → (Nat → Int32) → Int32 → Int32 → Int32 → Int32 → Int32 → Int32 → Option ((Nat → Int32) × (Nat → Int32) × Int32 × Int32 × Int32 × Int32 × Int32)} {G_lw_endRule : Int32 → (Nat → Int32) → Int32 → Bool} {A0_lw_endRule : Int32 → (Nat → Int32) → Int32 → Nat → Int32} {F0_lw_endRule : Int32 → (Nat → Int32) → Int32 → Int32} {G_tx_sign : Int32 → Int32 → Int32 → (Nat → Int32) → Bool} {W_tx_sign : Int32 → Int32 → Int32 → (Nat → Int32) → Int32} {F0_tx_skip : Int32 → Int32} {W_tx_isAtEnd : Int32 → Int32 → Int32} {F0_tx_fail : Int32 → Int32 → Int32 → Int32 → Int32} {F1_tx_fail : Int32 → Int32 → Int32 → Int32 → Int32} {W_tx_answerOr : Int32 → Int32 → Int32 → Int32} : zseg X zFT (zEx 90 (P_tx_begin F0_tx_begin F1_tx_begin F2_tx_begin F3_tx_begin) (zEx 36 (P_lw_clear F0_lw_clear F1_lw_clear F2_lw_clear) (zEx 50 (P_lr_readLetter Q_lr_readLetter) (zEx 53 (P_lr_readAmount Q_lr_readAmount) (zEx 38 (P_lw_beginCondition G_lw_beginCondition A0_lw_beginCondition) (zEx 96 (P_tx_expect G_tx_expect F0_tx_expect F1_tx_expect F2_tx_expect) (zEx 51 (P_lr_readCondition Q_lr_readCondition) (zEx 39 (P_lw_endRule G_lw_endRule A0_lw_endRule F0_lw_endRule) (zEx 93 (P_tx_sign G_tx_sign W_tx_sign) (zEx 95 (P_tx_skip F0_tx_skip) (zEx 92 (P_tx_isAtEnd W_tx_isAtEnd) (zEx 97 (P_tx_fail F0_tx_fail F1_tx_fail) (zEx 99 (P_tx_answerOr W_tx_answerOr) zE0))))))))))))) zc_49 (fun p => Nat.beq p 19) 400 0 [.ref 39, .ref 1, .int y, .ref 23] [] (ar, fi, (m1, m2, m3, m4, m5)) = (
  zl (F0_tx_begin y) (fun v1 =>
  zl (F1_tx_begin y) (fun v2 =>
  zl (F2_tx_begin y) (fun v3 =>
  zl (F3_tx_begin y) (fun v4 =>
  zl (F0_lw_clear) (fun v5 =>
  zl (F1_lw_clear) (fun v6 =>
  zl (F2_lw_clear) (fun v7 =>
  some (.inl (19, [.ref 39, .ref 1, .int y, .ref 23, .int 1, .int 0], [], (ar, (zuf (zuf (zuf (zuf (zuf (zuf (zuf fi 40 1 v1) 40 2 v2) 40 3 v3) 40 4 v4) 23 7 v5) 23 8 v6) 23 9 v7), (m1, m2, 1, m4, m5))))))))))) : Option ((Nat × List Value × List Value × zH2) ⊕ zO2)) := by with_unfolding_all rfl
set_option maxRecDepth 20000 in
theorem e_lr_read_39_1_23 {X : Nat × (Nat → Int32)} {ar fi : Nat → Nat → Int32} {m1 m2 m3 m4 m5 : Nat} {y : Int32} {o : zO2} : ∀ (q : T_lr_read), q_lr_read y (ar 1) (ar 24) (ar 25) (ar 27) (ar 28) (ar 29) (ar 30) = some q → (fun t => O_lr_read_39_1_23 ar fi m1 m2 m3 m4 m5 t = o) q → zR2 X zFT (zEx 90 S_tx_begin (zEx 36 S_lw_clear (zEx 50 S_lr_readLetter (zEx 53 S_lr_readAmount (zEx 38 S_lw_beginCondition (zEx 96 S_tx_expect (zEx 51 S_lr_readCondition (zEx 39 S_lw_endRule (zEx 93 S_tx_sign (zEx 95 S_tx_skip (zEx 92 S_tx_isAtEnd (zEx 97 S_tx_fail (zEx 99 S_tx_answerOr zE0))))))))))))) zc_49 0 [.ref 39, .ref 1, .int y, .ref 23] [] (ar, fi, (m1, m2, m3, m4, m5)) o := by
  intro q h hq
  unfold q_lr_read at h
  refine zT_seg t_lr_read_39_1_23 ?_
  obtain ⟨TT, hTT⟩ : ∃ T, T = zT X zFT (zEx 90 S_tx_begin (zEx 36 S_lw_clear (zEx 50 S_lr_readLetter (zEx 53 S_lr_readAmount (zEx 38 S_lw_beginCondition (zEx 96 S_tx_expect (zEx 51 S_lr_readCondition (zEx 39 S_lw_endRule (zEx 93 S_tx_sign (zEx 95 S_tx_skip (zEx 92 S_tx_isAtEnd (zEx 97 S_tx_fail (zEx 99 S_tx_answerOr zE0))))))))))))) zc_49 o := ⟨_, rfl⟩
  rw [← hTT]
  refine zl_el h (fun h => zU_l hTT ?_)
  refine zl_el h (fun h => zU_l hTT ?_)
  refine zl_el h (fun h => zU_l hTT ?_)
  refine zl_el h (fun h => zU_l hTT ?_)
  refine zl_el h (fun h => zU_l hTT ?_)
  refine zl_el h (fun h => zU_l hTT ?_)
  refine zl_el h (fun h => zU_l hTT ?_)
  rw [hTT]
  refine zR2_hp ?_ ?_ (zlp_K (k_lr_read_19_39_1_23 (m3 := m3)) h hq)
  · first | with_reducible rfl | exact hA10_lr_read _
  · first | with_reducible rfl | exact hF11_lr_read _ _ _ _ _ _ _ _
def O_lr_read_39_1_31 (ar fi : Nat → Nat → Int32) (m1 : Nat) (m2 : Nat) (m3 : Nat) (m4 : Nat) (m5 : Nat) (t : T_lr_read) : zO2 := match t with
  | (t0, t1, t2, t3, t4, t5, t6, t7, t8, t9, t10, t11, t12, t13) => (some (.int (t0)), ((zua (zua (zua (zua (zua (zua ar 32 t1) 33 t2) 35 t3) 36 t4) 37 t5) 38 t6), (zuf (zuf (zuf (zuf (zuf (zuf (zuf fi 31 7 t7) 31 8 t8) 31 9 t9) 40 1 t10) 40 2 t11) 40 3 t12) 40 4 t13), (m1, m2, 1, m4, m5)))
def M_lr_read_19_39_1_31 (X : Nat × (Nat → Int32)) (E : zTE) (ar fi : Nat → Nat → Int32) (m1 : Nat) (m2 : Nat) (m3 : Nat) (m4 : Nat) (m5 : Nat) (y : Int32) (c40_1 : Int32) (o : zO2) (s : U_lr_read_19) : Prop := match s with
  | (l4, l5, b32, b33, b35, b36, b37, b38, c31_7, c31_8, c31_9, c40_2, c40_3, c40_4) => zR2 X zFT E zc_49 19 [.ref 39, .ref 1, .int y, .ref 31, .int l4, .int l5] [] ((zua (zua (zua (zua (zua (zua ar 32 b32) 33 b33) 35 b35) 36 b36) 37 b37) 38 b38), (zuf (zuf (zuf (zuf (zuf (zuf (zuf fi 31 7 c31_7) 31 8 c31_8) 31 9 c31_9) 40 1 c40_1) 40 2 c40_2) 40 3 c40_3) 40 4 c40_4), (m1, m2, 1, m4, m5)) o
set_option maxRecDepth 1000000 in
theorem t19_lr_read_39_1_31 {X : Nat × (Nat → Int32)} {ar fi : Nat → Nat → Int32} {m1 m2 m3 m4 m5 : Nat} {y : Int32} {l4 : Int32} {l5 : Int32} {b32 : Nat → Int32} {b33 : Nat → Int32} {b35 : Nat → Int32} {b36 : Nat → Int32} {b37 : Nat → Int32} {b38 : Nat → Int32} {c31_7 : Int32} {c31_8 : Int32} {c31_9 : Int32} {c40_1 : Int32} {c40_2 : Int32} {c40_3 : Int32} {c40_4 : Int32} {F0_tx_begin : Int32 → Int32} {F1_tx_begin : Int32 → Int32} {F2_tx_begin : Int32 → Int32} {F3_tx_begin : Int32 → Int32} {F0_lw_clear : Int32} {F1_lw_clear : Int32} {F2_lw_clear : Int32} {Q_lr_readLetter : Int32 → (Nat → Int32) → (Nat → Int32) → (Nat → Int32) → Int32 → Int32 → Int32 → Int32 → Int32 → Int32 → Option (Int32 × (Nat → Int32) × (Nat → Int32) × Int32 × Int32 × Int32)} {Q_lr_readAmount : Int32 → (Nat → Int32) → (Nat → Int32) → (Nat → Int32) → Int32 → Int32 → Int32 → Int32 → Int32 → Int32 → Option ((Nat → Int32) × (Nat → Int32) × Int32 × Int32 × Int32 × Int32 × Int32)} {G_lw_beginCondition : Int32 → (Nat → Int32) → Int32 → Bool} {A0_lw_beginCondition : Int32 → (Nat → Int32) → Int32 → Nat → Int32} {G_tx_expect : Int32 → Int32 → Int32 → Int32 → (Nat → Int32) → Int32 → Bool} {F0_tx_expect : Int32 → Int32 → Int32 → Int32 → (Nat → Int32) → Int32 → Int32} {F1_tx_expect : Int32 → Int32 → Int32 → Int32 → (Nat → Int32) → Int32 → Int32} {F2_tx_expect : Int32 → Int32 → Int32 → Int32 → (Nat → Int32) → Int32 → Int32} {Q_lr_readCondition : Int32 → (Nat → Int32) → (Nat → Int32) → (Nat → Int32) → Int32 → Int32 → Int32 → Int32 → Int32 → Int32 → Option ((Nat → Int32) × (Nat → Int32) × Int32 × Int32 × Int32 × Int32 × Int32)} {G_lw_endRule : Int32 → (Nat → Int32) → Int32 → Bool} {A0_lw_endRule : Int32 → (Nat → Int32) → Int32 → Nat → Int32} {F0_lw_endRule : Int32 → (Nat → Int32) → Int32 → Int32} {G_tx_sign : Int32 → Int32 → Int32 → (Nat → Int32) → Bool} {W_tx_sign : Int32 → Int32 → Int32 → (Nat → Int32) → Int32} {F0_tx_skip : Int32 → Int32} {W_tx_isAtEnd : Int32 → Int32 → Int32} {F0_tx_fail : Int32 → Int32 → Int32 → Int32 → Int32} {F1_tx_fail : Int32 → Int32 → Int32 → Int32 → Int32} {W_tx_answerOr : Int32 → Int32 → Int32 → Int32} : zseg X zFT (zEx 90 (P_tx_begin F0_tx_begin F1_tx_begin F2_tx_begin F3_tx_begin) (zEx 36 (P_lw_clear F0_lw_clear F1_lw_clear F2_lw_clear) (zEx 50 (P_lr_readLetter Q_lr_readLetter) (zEx 53 (P_lr_readAmount Q_lr_readAmount) (zEx 38 (P_lw_beginCondition G_lw_beginCondition A0_lw_beginCondition) (zEx 96 (P_tx_expect G_tx_expect F0_tx_expect F1_tx_expect F2_tx_expect) (zEx 51 (P_lr_readCondition Q_lr_readCondition) (zEx 39 (P_lw_endRule G_lw_endRule A0_lw_endRule F0_lw_endRule) (zEx 93 (P_tx_sign G_tx_sign W_tx_sign) (zEx 95 (P_tx_skip F0_tx_skip) (zEx 92 (P_tx_isAtEnd W_tx_isAtEnd) (zEx 97 (P_tx_fail F0_tx_fail F1_tx_fail) (zEx 99 (P_tx_answerOr W_tx_answerOr) zE0))))))))))))) zc_49 (fun p => Nat.beq p 19) 400 19 [.ref 39, .ref 1, .int y, .ref 31, .int l4, .int l5] [] ((zua (zua (zua (zua (zua (zua ar 32 b32) 33 b33) 35 b35) 36 b36) 37 b37) 38 b38), (zuf (zuf (zuf (zuf (zuf (zuf (zuf fi 31 7 c31_7) 31 8 c31_8) 31 9 c31_9) 40 1 c40_1) 40 2 c40_2) 40 3 c40_3) 40 4 c40_4), (m1, m2, 1, m4, m5)) = (
  bif decide (16 < l5) then
   zl (W_tx_answerOr c31_9 c40_2 c40_3) (fun v8 =>
   some (.inr (some (.int v8), ((zua (zua (zua (zua (zua (zua ar 32 b32) 33 b33) 35 b35) 36 b36) 37 b37) 38 b38), (zuf (zuf (zuf (zuf (zuf (zuf (zuf fi 31 7 c31_7) 31 8 c31_8) 31 9 c31_9) 40 1 c40_1) 40 2 c40_2) 40 3 c40_3) 40 4 c40_4), (m1, m2, 1, m4, m5)))))
  else
   bif decide (l4 = 0) then
    zl (W_tx_answerOr c31_9 c40_2 c40_3) (fun v9 =>
    some (.inr (some (.int v9), ((zua (zua (zua (zua (zua (zua ar 32 b32) 33 b33) 35 b35) 36 b36) 37 b37) 38 b38), (zuf (zuf (zuf (zuf (zuf (zuf (zuf fi 31 7 c31_7) 31 8 c31_8) 31 9 c31_9) 40 1 c40_1) 40 2 c40_2) 40 3 c40_3) 40 4 c40_4), (m1, m2, 1, m4, m5)))))
   else
    zl (Q_lr_readLetter l5 (ar 1) b35 b36 c31_7 c31_9 c40_1 c40_2 c40_3 c40_4) (fun v10 => zg v10.isSome (
    bif decide (((zgt v10).1) = 98) then
     zl (Q_lr_readAmount 0 (ar 1) b32 b33 c31_7 c31_8 c40_1 (((zgt v10).2.2.2.1)) (((zgt v10).2.2.2.2.1)) (((zgt v10).2.2.2.2.2))) (fun v11 => zg v11.isSome (
     zg (G_lw_beginCondition c31_9 b37 (((zgt v11).2.2.1))) (
     zl (A0_lw_beginCondition c31_9 b37 (((zgt v11).2.2.1))) (fun v12 =>
     zg (G_tx_expect 40 (((zgt v11).2.2.2.2.1)) (((zgt v11).2.2.2.2.2.2)) c40_1 (ar 1) (((zgt v11).2.2.2.2.2.1))) (
     zl (F0_tx_expect 40 (((zgt v11).2.2.2.2.1)) (((zgt v11).2.2.2.2.2.2)) c40_1 (ar 1) (((zgt v11).2.2.2.2.2.1))) (fun v13 =>
     zl (F1_tx_expect 40 (((zgt v11).2.2.2.2.1)) (((zgt v11).2.2.2.2.2.2)) c40_1 (ar 1) (((zgt v11).2.2.2.2.2.1))) (fun v14 =>
     zl (F2_tx_expect 40 (((zgt v11).2.2.2.2.1)) (((zgt v11).2.2.2.2.2.2)) c40_1 (ar 1) (((zgt v11).2.2.2.2.2.1))) (fun v15 =>
     zl (Q_lr_readCondition 1 (ar 1) (((zgt v11).1)) (((zgt v11).2.1)) (((zgt v11).2.2.1)) (((zgt v11).2.2.2.1)) c40_1 v13 v14 v15) (fun v16 => zg v16.isSome (
     zg (G_tx_expect 41 (((zgt v16).2.2.2.2.1)) (((zgt v16).2.2.2.2.2.2)) c40_1 (ar 1) (((zgt v16).2.2.2.2.2.1))) (
     zl (F0_tx_expect 41 (((zgt v16).2.2.2.2.1)) (((zgt v16).2.2.2.2.2.2)) c40_1 (ar 1) (((zgt v16).2.2.2.2.2.1))) (fun v17 =>
     zl (F1_tx_expect 41 (((zgt v16).2.2.2.2.1)) (((zgt v16).2.2.2.2.2.2)) c40_1 (ar 1) (((zgt v16).2.2.2.2.2.1))) (fun v18 =>
     zl (F2_tx_expect 41 (((zgt v16).2.2.2.2.1)) (((zgt v16).2.2.2.2.2.2)) c40_1 (ar 1) (((zgt v16).2.2.2.2.2.1))) (fun v19 =>
     zg (G_lw_endRule c31_9 b38 (((zgt v16).2.2.1))) (
     zl (A0_lw_endRule c31_9 b38 (((zgt v16).2.2.1))) (fun v20 =>
     zl (F0_lw_endRule c31_9 b38 (((zgt v16).2.2.1))) (fun v21 =>
     zg (G_tx_sign v17 v19 c40_1 (ar 1)) (
     zl (W_tx_sign v17 v19 c40_1 (ar 1)) (fun v22 =>
     bif !decide (v22 = 59) then
      zl (W_tx_isAtEnd v19 c40_1) (fun v23 =>
      bif !decide (v23 = 0) then
       some (.inl (19, [.ref 39, .ref 1, .int y, .ref 31, .int 0, .int (l5 + 1)], [], ((zua (zua (zua (zua (zua (zua (zua (zua (zua (zua (zua (zua (zua (zua ar 32 b32) 33 b33) 35 b35) 36 b36) 37 b37) 38 b38) 35 (((zgt v10).2.1))) 36 (((zgt v10).2.2.1))) 32 (((zgt v11).1))) 33 (((zgt v11).2.1))) 37 v12) 32 (((zgt v16).1))) 33 (((zgt v16).2.1))) 38 v20), (zuf (zuf (zuf (zuf (zuf (zuf (zuf (zuf (zuf (zuf (zuf (zuf (zuf (zuf (zuf (zuf (zuf (zuf (zuf (zuf (zuf (zuf (zuf (zuf (zuf (zuf (zuf fi 31 7 c31_7) 31 8 c31_8) 31 9 c31_9) 40 1 c40_1) 40 2 c40_2) 40 3 c40_3) 40 4 c40_4) 40 2 (((zgt v10).2.2.2.1))) 40 3 (((zgt v10).2.2.2.2.1))) 40 4 (((zgt v10).2.2.2.2.2))) 31 7 (((zgt v11).2.2.1))) 31 8 (((zgt v11).2.2.2.1))) 40 2 (((zgt v11).2.2.2.2.1))) 40 3 (((zgt v11).2.2.2.2.2.1))) 40 4 (((zgt v11).2.2.2.2.2.2))) 40 2 v13) 40 3 v14) 40 4 v15) 31 7 (((zgt v16).2.2.1))) 31 8 (((zgt v16).2.2.2.1))) 40 2 (((zgt v16).2.2.2.2.1))) 40 3 (((zgt v16).2.2.2.2.2.1))) 40 4 (((zgt v16).2.2.2.2.2.2))) 40 2 v17) 40 3 v18) 40 4 v19) 31 9 v21), (m1, m2, 1, m4, m5))))
      else
       zl (F0_tx_fail 1 v19 v17 v18) (fun v24 =>
       zl (F1_tx_fail 1 v19 v17 v18) (fun v25 =>
       some (.inl (19, [.ref 39, .ref 1, .int y, .ref 31, .int 0, .int (l5 + 1)], [], ((zua (zua (zua (zua (zua (zua (zua (zua (zua (zua (zua (zua (zua (zua ar 32 b32) 33 b33) 35 b35) 36 b36) 37 b37) 38 b38) 35 (((zgt v10).2.1))) 36 (((zgt v10).2.2.1))) 32 (((zgt v11).1))) 33 (((zgt v11).2.1))) 37 v12) 32 (((zgt v16).1))) 33 (((zgt v16).2.1))) 38 v20), (zuf (zuf (zuf (zuf (zuf (zuf (zuf (zuf (zuf (zuf (zuf (zuf (zuf (zuf (zuf (zuf (zuf (zuf (zuf (zuf (zuf (zuf (zuf (zuf (zuf (zuf (zuf (zuf (zuf fi 31 7 c31_7) 31 8 c31_8) 31 9 c31_9) 40 1 c40_1) 40 2 c40_2) 40 3 c40_3) 40 4 c40_4) 40 2 (((zgt v10).2.2.2.1))) 40 3 (((zgt v10).2.2.2.2.1))) 40 4 (((zgt v10).2.2.2.2.2))) 31 7 (((zgt v11).2.2.1))) 31 8 (((zgt v11).2.2.2.1))) 40 2 (((zgt v11).2.2.2.2.1))) 40 3 (((zgt v11).2.2.2.2.2.1))) 40 4 (((zgt v11).2.2.2.2.2.2))) 40 2 v13) 40 3 v14) 40 4 v15) 31 7 (((zgt v16).2.2.1))) 31 8 (((zgt v16).2.2.2.1))) 40 2 (((zgt v16).2.2.2.2.1))) 40 3 (((zgt v16).2.2.2.2.2.1))) 40 4 (((zgt v16).2.2.2.2.2.2))) 40 2 v17) 40 3 v18) 40 4 v19) 31 9 v21) 40 2 v24) 40 3 v25), (m1, m2, 1, m4, m5)))))))
     else
      zl (F0_tx_skip v19) (fun v26 =>
      some (.inl (19, [.ref 39, .ref 1, .int y, .ref 31, .int 1, .int (l5 + 1)], [], ((zua (zua (zua (zua (zua (zua (zua (zua (zua (zua (zua (zua (zua (zua ar 32 b32) 33 b33) 35 b35) 36 b36) 37 b37) 38 b38) 35 (((zgt v10).2.1))) 36 (((zgt v10).2.2.1))) 32 (((zgt v11).1))) 33 (((zgt v11).2.1))) 37 v12) 32 (((zgt v16).1))) 33 (((zgt v16).2.1))) 38 v20), (zuf (zuf (zuf (zuf (zuf (zuf (zuf (zuf (zuf (zuf (zuf (zuf (zuf (zuf (zuf (zuf (zuf (zuf (zuf (zuf (zuf (zuf (zuf (zuf (zuf (zuf (zuf (zuf fi 31 7 c31_7) 31 8 c31_8) 31 9 c31_9) 40 1 c40_1) 40 2 c40_2) 40 3 c40_3) 40 4 c40_4) 40 2 (((zgt v10).2.2.2.1))) 40 3 (((zgt v10).2.2.2.2.1))) 40 4 (((zgt v10).2.2.2.2.2))) 31 7 (((zgt v11).2.2.1))) 31 8 (((zgt v11).2.2.2.1))) 40 2 (((zgt v11).2.2.2.2.1))) 40 3 (((zgt v11).2.2.2.2.2.1))) 40 4 (((zgt v11).2.2.2.2.2.2))) 40 2 v13) 40 3 v14) 40 4 v15) 31 7 (((zgt v16).2.2.1))) 31 8 (((zgt v16).2.2.2.1))) 40 2 (((zgt v16).2.2.2.2.1))) 40 3 (((zgt v16).2.2.2.2.2.1))) 40 4 (((zgt v16).2.2.2.2.2.2))) 40 2 v17) 40 3 v18) 40 4 v19) 31 9 v21) 40 4 v26), (m1, m2, 1, m4, m5))))))))))))))))))))))))
    else
     bif !decide (((zgt v10).1) = 115) then
      zg (G_lw_beginCondition c31_9 b37 c31_7) (
      zl (A0_lw_beginCondition c31_9 b37 c31_7) (fun v27 =>
      zg (G_tx_expect 40 (((zgt v10).2.2.2.1)) (((zgt v10).2.2.2.2.2)) c40_1 (ar 1) (((zgt v10).2.2.2.2.1))) (
      zl (F0_tx_expect 40 (((zgt v10).2.2.2.1)) (((zgt v10).2.2.2.2.2)) c40_1 (ar 1) (((zgt v10).2.2.2.2.1))) (fun v28 =>
      zl (F1_tx_expect 40 (((zgt v10).2.2.2.1)) (((zgt v10).2.2.2.2.2)) c40_1 (ar 1) (((zgt v10).2.2.2.2.1))) (fun v29 =>
      zl (F2_tx_expect 40 (((zgt v10).2.2.2.1)) (((zgt v10).2.2.2.2.2)) c40_1 (ar 1) (((zgt v10).2.2.2.2.1))) (fun v30 =>
      zl (Q_lr_readCondition 1 (ar 1) b32 b33 c31_7 c31_8 c40_1 v28 v29 v30) (fun v31 => zg v31.isSome (
      zg (G_tx_expect 41 (((zgt v31).2.2.2.2.1)) (((zgt v31).2.2.2.2.2.2)) c40_1 (ar 1) (((zgt v31).2.2.2.2.2.1))) (
      zl (F0_tx_expect 41 (((zgt v31).2.2.2.2.1)) (((zgt v31).2.2.2.2.2.2)) c40_1 (ar 1) (((zgt v31).2.2.2.2.2.1))) (fun v32 =>
      zl (F1_tx_expect 41 (((zgt v31).2.2.2.2.1)) (((zgt v31).2.2.2.2.2.2)) c40_1 (ar 1) (((zgt v31).2.2.2.2.2.1))) (fun v33 =>
      zl (F2_tx_expect 41 (((zgt v31).2.2.2.2.1)) (((zgt v31).2.2.2.2.2.2)) c40_1 (ar 1) (((zgt v31).2.2.2.2.2.1))) (fun v34 =>
      zg (G_lw_endRule c31_9 b38 (((zgt v31).2.2.1))) (
      zl (A0_lw_endRule c31_9 b38 (((zgt v31).2.2.1))) (fun v35 =>
      zl (F0_lw_endRule c31_9 b38 (((zgt v31).2.2.1))) (fun v36 =>
      zg (G_tx_sign v32 v34 c40_1 (ar 1)) (
      zl (W_tx_sign v32 v34 c40_1 (ar 1)) (fun v37 =>
      bif !decide (v37 = 59) then
       zl (W_tx_isAtEnd v34 c40_1) (fun v38 =>
       bif !decide (v38 = 0) then
        some (.inl (19, [.ref 39, .ref 1, .int y, .ref 31, .int 0, .int (l5 + 1)], [], ((zua (zua (zua (zua (zua (zua (zua (zua (zua (zua (zua (zua ar 32 b32) 33 b33) 35 b35) 36 b36) 37 b37) 38 b38) 35 (((zgt v10).2.1))) 36 (((zgt v10).2.2.1))) 37 v27) 32 (((zgt v31).1))) 33 (((zgt v31).2.1))) 38 v35), (zuf (zuf (zuf (zuf (zuf (zuf (zuf (zuf (zuf (zuf (zuf (zuf (zuf (zuf (zuf (zuf (zuf (zuf (zuf (zuf (zuf (zuf fi 31 7 c31_7) 31 8 c31_8) 31 9 c31_9) 40 1 c40_1) 40 2 c40_2) 40 3 c40_3) 40 4 c40_4) 40 2 (((zgt v10).2.2.2.1))) 40 3 (((zgt v10).2.2.2.2.1))) 40 4 (((zgt v10).2.2.2.2.2))) 40 2 v28) 40 3 v29) 40 4 v30) 31 7 (((zgt v31).2.2.1))) 31 8 (((zgt v31).2.2.2.1))) 40 2 (((zgt v31).2.2.2.2.1))) 40 3 (((zgt v31).2.2.2.2.2.1))) 40 4 (((zgt v31).2.2.2.2.2.2))) 40 2 v32) 40 3 v33) 40 4 v34) 31 9 v36), (m1, m2, 1, m4, m5))))
       else
        zl (F0_tx_fail 1 v34 v32 v33) (fun v39 =>
        zl (F1_tx_fail 1 v34 v32 v33) (fun v40 =>
        some (.inl (19, [.ref 39, .ref 1, .int y, .ref 31, .int 0, .int (l5 + 1)], [], ((zua (zua (zua (zua (zua (zua (zua (zua (zua (zua (zua (zua ar 32 b32) 33 b33) 35 b35) 36 b36) 37 b37) 38 b38) 35 (((zgt v10).2.1))) 36 (((zgt v10).2.2.1))) 37 v27) 32 (((zgt v31).1))) 33 (((zgt v31).2.1))) 38 v35), (zuf (zuf (zuf (zuf (zuf (zuf (zuf (zuf (zuf (zuf (zuf (zuf (zuf (zuf (zuf (zuf (zuf (zuf (zuf (zuf (zuf (zuf (zuf (zuf fi 31 7 c31_7) 31 8 c31_8) 31 9 c31_9) 40 1 c40_1) 40 2 c40_2) 40 3 c40_3) 40 4 c40_4) 40 2 (((zgt v10).2.2.2.1))) 40 3 (((zgt v10).2.2.2.2.1))) 40 4 (((zgt v10).2.2.2.2.2))) 40 2 v28) 40 3 v29) 40 4 v30) 31 7 (((zgt v31).2.2.1))) 31 8 (((zgt v31).2.2.2.1))) 40 2 (((zgt v31).2.2.2.2.1))) 40 3 (((zgt v31).2.2.2.2.2.1))) 40 4 (((zgt v31).2.2.2.2.2.2))) 40 2 v32) 40 3 v33) 40 4 v34) 31 9 v36) 40 2 v39) 40 3 v40), (m1, m2, 1, m4, m5)))))))
      else
       zl (F0_tx_skip v34) (fun v41 =>
       some (.inl (19, [.ref 39, .ref 1, .int y, .ref 31, .int 1, .int (l5 + 1)], [], ((zua (zua (zua (zua (zua (zua (zua (zua (zua (zua (zua (zua ar 32 b32) 33 b33) 35 b35) 36 b36) 37 b37) 38 b38) 35 (((zgt v10).2.1))) 36 (((zgt v10).2.2.1))) 37 v27) 32 (((zgt v31).1))) 33 (((zgt v31).2.1))) 38 v35), (zuf (zuf (zuf (zuf (zuf (zuf (zuf (zuf (zuf (zuf (zuf (zuf (zuf (zuf (zuf (zuf (zuf (zuf (zuf (zuf (zuf (zuf (zuf fi 31 7 c31_7) 31 8 c31_8) 31 9 c31_9) 40 1 c40_1) 40 2 c40_2) 40 3 c40_3) 40 4 c40_4) 40 2 (((zgt v10).2.2.2.1))) 40 3 (((zgt v10).2.2.2.2.1))) 40 4 (((zgt v10).2.2.2.2.2))) 40 2 v28) 40 3 v29) 40 4 v30) 31 7 (((zgt v31).2.2.1))) 31 8 (((zgt v31).2.2.2.1))) 40 2 (((zgt v31).2.2.2.2.1))) 40 3 (((zgt v31).2.2.2.2.2.1))) 40 4 (((zgt v31).2.2.2.2.2.2))) 40 2 v32) 40 3 v33) 40 4 v34) 31 9 v36) 40 4 v41), (m1, m2, 1, m4, m5))))))))))))))))))))))
     else
      zl (Q_lr_readAmount 0 (ar 1) b32 b33 c31_7 c31_8 c40_1 (((zgt v10).2.2.2.1)) (((zgt v10).2.2.2.2.1)) (((zgt v10).2.2.2.2.2))) (fun v42 => zg v42.isSome (
      zg (G_lw_beginCondition c31_9 b37 (((zgt v42).2.2.1))) (
      zl (A0_lw_beginCondition c31_9 b37 (((zgt v42).2.2.1))) (fun v43 =>
      zg (G_tx_expect 40 (((zgt v42).2.2.2.2.1)) (((zgt v42).2.2.2.2.2.2)) c40_1 (ar 1) (((zgt v42).2.2.2.2.2.1))) (
      zl (F0_tx_expect 40 (((zgt v42).2.2.2.2.1)) (((zgt v42).2.2.2.2.2.2)) c40_1 (ar 1) (((zgt v42).2.2.2.2.2.1))) (fun v44 =>
      zl (F1_tx_expect 40 (((zgt v42).2.2.2.2.1)) (((zgt v42).2.2.2.2.2.2)) c40_1 (ar 1) (((zgt v42).2.2.2.2.2.1))) (fun v45 =>
      zl (F2_tx_expect 40 (((zgt v42).2.2.2.2.1)) (((zgt v42).2.2.2.2.2.2)) c40_1 (ar 1) (((zgt v42).2.2.2.2.2.1))) (fun v46 =>
      zl (Q_lr_readCondition 1 (ar 1) (((zgt v42).1)) (((zgt v42).2.1)) (((zgt v42).2.2.1)) (((zgt v42).2.2.2.1)) c40_1 v44 v45 v46) (fun v47 => zg v47.isSome (
      zg (G_tx_expect 41 (((zgt v47).2.2.2.2.1)) (((zgt v47).2.2.2.2.2.2)) c40_1 (ar 1) (((zgt v47).2.2.2.2.2.1))) (
      zl (F0_tx_expect 41 (((zgt v47).2.2.2.2.1)) (((zgt v47).2.2.2.2.2.2)) c40_1 (ar 1) (((zgt v47).2.2.2.2.2.1))) (fun v48 =>
      zl (F1_tx_expect 41 (((zgt v47).2.2.2.2.1)) (((zgt v47).2.2.2.2.2.2)) c40_1 (ar 1) (((zgt v47).2.2.2.2.2.1))) (fun v49 =>
      zl (F2_tx_expect 41 (((zgt v47).2.2.2.2.1)) (((zgt v47).2.2.2.2.2.2)) c40_1 (ar 1) (((zgt v47).2.2.2.2.2.1))) (fun v50 =>
      zg (G_lw_endRule c31_9 b38 (((zgt v47).2.2.1))) (
      zl (A0_lw_endRule c31_9 b38 (((zgt v47).2.2.1))) (fun v51 =>
      zl (F0_lw_endRule c31_9 b38 (((zgt v47).2.2.1))) (fun v52 =>
      zg (G_tx_sign v48 v50 c40_1 (ar 1)) (
      zl (W_tx_sign v48 v50 c40_1 (ar 1)) (fun v53 =>
      bif !decide (v53 = 59) then
       zl (W_tx_isAtEnd v50 c40_1) (fun v54 =>
       bif !decide (v54 = 0) then
        some (.inl (19, [.ref 39, .ref 1, .int y, .ref 31, .int 0, .int (l5 + 1)], [], ((zua (zua (zua (zua (zua (zua (zua (zua (zua (zua (zua (zua (zua (zua ar 32 b32) 33 b33) 35 b35) 36 b36) 37 b37) 38 b38) 35 (((zgt v10).2.1))) 36 (((zgt v10).2.2.1))) 32 (((zgt v42).1))) 33 (((zgt v42).2.1))) 37 v43) 32 (((zgt v47).1))) 33 (((zgt v47).2.1))) 38 v51), (zuf (zuf (zuf (zuf (zuf (zuf (zuf (zuf (zuf (zuf (zuf (zuf (zuf (zuf (zuf (zuf (zuf (zuf (zuf (zuf (zuf (zuf (zuf (zuf (zuf (zuf (zuf fi 31 7 c31_7) 31 8 c31_8) 31 9 c31_9) 40 1 c40_1) 40 2 c40_2) 40 3 c40_3) 40 4 c40_4) 40 2 (((zgt v10).2.2.2.1))) 40 3 (((zgt v10).2.2.2.2.1))) 40 4 (((zgt v10).2.2.2.2.2))) 31 7 (((zgt v42).2.2.1))) 31 8 (((zgt v42).2.2.2.1))) 40 2 (((zgt v42).2.2.2.2.1))) 40 3 (((zgt v42).2.2.2.2.2.1))) 40 4 (((zgt v42).2.2.2.2.2.2))) 40 2 v44) 40 3 v45) 40 4 v46) 31 7 (((zgt v47).2.2.1))) 31 8 (((zgt v47).2.2.2.1))) 40 2 (((zgt v47).2.2.2.2.1))) 40 3 (((zgt v47).2.2.2.2.2.1))) 40 4 (((zgt v47).2.2.2.2.2.2))) 40 2 v48) 40 3 v49) 40 4 v50) 31 9 v52), (m1, m2, 1, m4, m5))))
       else
        zl (F0_tx_fail 1 v50 v48 v49) (fun v55 =>
        zl (F1_tx_fail 1 v50 v48 v49) (fun v56 =>
        some (.inl (19, [.ref 39, .ref 1, .int y, .ref 31, .int 0, .int (l5 + 1)], [], ((zua (zua (zua (zua (zua (zua (zua (zua (zua (zua (zua (zua (zua (zua ar 32 b32) 33 b33) 35 b35) 36 b36) 37 b37) 38 b38) 35 (((zgt v10).2.1))) 36 (((zgt v10).2.2.1))) 32 (((zgt v42).1))) 33 (((zgt v42).2.1))) 37 v43) 32 (((zgt v47).1))) 33 (((zgt v47).2.1))) 38 v51), (zuf (zuf (zuf (zuf (zuf (zuf (zuf (zuf (zuf (zuf (zuf (zuf (zuf (zuf (zuf (zuf (zuf (zuf (zuf (zuf (zuf (zuf (zuf (zuf (zuf (zuf (zuf (zuf (zuf fi 31 7 c31_7) 31 8 c31_8) 31 9 c31_9) 40 1 c40_1) 40 2 c40_2) 40 3 c40_3) 40 4 c40_4) 40 2 (((zgt v10).2.2.2.1))) 40 3 (((zgt v10).2.2.2.2.1))) 40 4 (((zgt v10).2.2.2.2.2))) 31 7 (((zgt v42).2.2.1))) 31 8 (((zgt v42).2.2.2.1))) 40 2 (((zgt v42).2.2.2.2.1))) 40 3 (((zgt v42).2.2.2.2.2.1))) 40 4 (((zgt v42).2.2.2.2.2.2))) 40 2 v44) 40 3 v45) 40 4 v46) 31 7 (((zgt v47).2.2.1))) 31 8 (((zgt v47).2.2.2.1))) 40 2 (((zgt v47).2.2.2.2.1))) 40 3 (((zgt v47).2.2.2.2.2.1))) 40 4 (((zgt v47).2.2.2.2.2.2))) 40 2 v48) 40 3 v49) 40 4 v50) 31 9 v52) 40 2 v55) 40 3 v56), (m1, m2, 1, m4, m5)))))))
      else
       zl (F0_tx_skip v50) (fun v57 =>
       some (.inl (19, [.ref 39, .ref 1, .int y, .ref 31, .int 1, .int (l5 + 1)], [], ((zua (zua (zua (zua (zua (zua (zua (zua (zua (zua (zua (zua (zua (zua ar 32 b32) 33 b33) 35 b35) 36 b36) 37 b37) 38 b38) 35 (((zgt v10).2.1))) 36 (((zgt v10).2.2.1))) 32 (((zgt v42).1))) 33 (((zgt v42).2.1))) 37 v43) 32 (((zgt v47).1))) 33 (((zgt v47).2.1))) 38 v51), (zuf (zuf (zuf (zuf (zuf (zuf (zuf (zuf (zuf (zuf (zuf (zuf (zuf (zuf (zuf (zuf (zuf (zuf (zuf (zuf (zuf (zuf (zuf (zuf (zuf (zuf (zuf (zuf fi 31 7 c31_7) 31 8 c31_8) 31 9 c31_9) 40 1 c40_1) 40 2 c40_2) 40 3 c40_3) 40 4 c40_4) 40 2 (((zgt v10).2.2.2.1))) 40 3 (((zgt v10).2.2.2.2.1))) 40 4 (((zgt v10).2.2.2.2.2))) 31 7 (((zgt v42).2.2.1))) 31 8 (((zgt v42).2.2.2.1))) 40 2 (((zgt v42).2.2.2.2.1))) 40 3 (((zgt v42).2.2.2.2.2.1))) 40 4 (((zgt v42).2.2.2.2.2.2))) 40 2 v44) 40 3 v45) 40 4 v46) 31 7 (((zgt v47).2.2.1))) 31 8 (((zgt v47).2.2.2.1))) 40 2 (((zgt v47).2.2.2.2.1))) 40 3 (((zgt v47).2.2.2.2.2.1))) 40 4 (((zgt v47).2.2.2.2.2.2))) 40 2 v48) 40 3 v49) 40 4 v50) 31 9 v52) 40 4 v57), (m1, m2, 1, m4, m5)))))))))))))))))))))))))) : Option ((Nat × List Value × List Value × zH2) ⊕ zO2)) := by with_unfolding_all rfl
set_option maxRecDepth 20000 in
theorem k_lr_read_19_39_1_31 {X : Nat × (Nat → Int32)} {ar fi : Nat → Nat → Int32} {m1 m2 m3 m4 m5 : Nat} {y : Int32} {c40_1 : Int32} {o : zO2} : ∀ (s : U_lr_read_19) (q : U_lr_read_19 ⊕ T_lr_read), f_lr_read_19 (ar 1) c40_1 s = some q → zq (M_lr_read_19_39_1_31 X (zEx 90 S_tx_begin (zEx 36 S_lw_clear (zEx 50 S_lr_readLetter (zEx 53 S_lr_readAmount (zEx 38 S_lw_beginCondition (zEx 96 S_tx_expect (zEx 51 S_lr_readCondition (zEx 39 S_lw_endRule (zEx 93 S_tx_sign (zEx 95 S_tx_skip (zEx 92 S_tx_isAtEnd (zEx 97 S_tx_fail (zEx 99 S_tx_answerOr zE0))))))))))))) ar fi m1 m2 m3 m4 m5 y c40_1 o) (fun t => O_lr_read_39_1_31 ar fi m1 m2 m3 m4 m5 t = o) q → M_lr_read_19_39_1_31 X (zEx 90 S_tx_begin (zEx 36 S_lw_clear (zEx 50 S_lr_readLetter (zEx 53 S_lr_readAmount (zEx 38 S_lw_beginCondition (zEx 96 S_tx_expect (zEx 51 S_lr_readCondition (zEx 39 S_lw_endRule (zEx 93 S_tx_sign (zEx 95 S_tx_skip (zEx 92 S_tx_isAtEnd (zEx 97 S_tx_fail (zEx 99 S_tx_answerOr zE0))))))))))))) ar fi m1 m2 m3 m4 m5 y c40_1 o s := by
  intro s q h hq
  obtain ⟨l4, l5, b32, b33, b35, b36, b37, b38, c31_7, c31_8, c31_9, c40_2, c40_3, c40_4⟩ := s
  have h : b_lr_read_19 (ar 1) c40_1 l4 l5 b32 b33 b35 b36 b37 b38 c31_7 c31_8 c31_9 c40_2 c40_3 c40_4 = some q := h
  unfold b_lr_read_19 at h
  show zR2 X zFT (zEx 90 S_tx_begin (zEx 36 S_lw_clear (zEx 50 S_lr_readLetter (zEx 53 S_lr_readAmount (zEx 38 S_lw_beginCondition (zEx 96 S_tx_expect (zEx 51 S_lr_readCondition (zEx 39 S_lw_endRule (zEx 93 S_tx_sign (zEx 95 S_tx_skip (zEx 92 S_tx_isAtEnd (zEx 97 S_tx_fail (zEx 99 S_tx_answerOr zE0))))))))))))) zc_49 19 [.ref 39, .ref 1, .int y, .ref 31, .int l4, .int l5] [] ((zua (zua (zua (zua (zua (zua ar 32 b32) 33 b33) 35 b35) 36 b36) 37 b37) 38 b38), (zuf (zuf (zuf (zuf (zuf (zuf (zuf fi 31 7 c31_7) 31 8 c31_8) 31 9 c31_9) 40 1 c40_1) 40 2 c40_2) 40 3 c40_3) 40 4 c40_4), (m1, m2, 1, m4, m5)) o
  refine zT_seg (t19_lr_read_39_1_31 (m3 := m3)) ?_
  obtain ⟨TT, hTT⟩ : ∃ T, T = zT X zFT (zEx 90 S_tx_begin (zEx 36 S_lw_clear (zEx 50 S_lr_readLetter (zEx 53 S_lr_readAmount (zEx 38 S_lw_beginCondition (zEx 96 S_tx_expect (zEx 51 S_lr_readCondition (zEx 39 S_lw_endRule (zEx 93 S_tx_sign (zEx 95 S_tx_skip (zEx 92 S_tx_isAtEnd (zEx 97 S_tx_fail (zEx 99 S_tx_answerOr zE0))))))))))))) zc_49 o := ⟨_, rfl⟩
  rw [← hTT]
  refine zb_el h (fun hb h => zU_t hTT hb ?_) (fun hb h => zU_f hTT hb ?_)
  · refine zl_el h (fun h => zU_l hTT ?_)
    rw [hTT]
    have hz := zsi h hq
    refine (zO_mk ?_ ?_).trans hz
    · first | with_reducible rfl | exact hA12_lr_read _ _ _ _ _ _ _
    · first | with_reducible rfl | exact hF13_lr_read _ _ _ _ _ _ _ _
  · refine zb_el h (fun hb h => zU_t hTT hb ?_) (fun hb h => zU_f hTT hb ?_)
    · refine zl_el h (fun h => zU_l hTT ?_)
      rw [hTT]
      have hz := zsi h hq
      refine (zO_mk ?_ ?_).trans hz
      · first | with_reducible rfl | exact hA12_lr_read _ _ _ _ _ _ _
      · first | with_reducible rfl | exact hF13_lr_read _ _ _ _ _ _ _ _
    · refine zbd_el h (fun v10 hv h => zU_c hTT hv ?_)
      refine zb_el h (fun hb h => zU_t hTT hb ?_) (fun hb h => zU_f hTT hb ?_)
      · refine zbd_el h (fun v11 hv h => zU_c hTT hv ?_)
        refine zg_el h (fun hg h => zU_g hTT hg ?_)
        refine zl_el h (fun h => zU_l hTT ?_)
        refine zg_el h (fun hg h => zU_g hTT hg ?_)
        refine zl_el h (fun h => zU_l hTT ?_)
        refine zl_el h (fun h => zU_l hTT ?_)
        refine zl_el h (fun h => zU_l hTT ?_)
        refine zbd_el h (fun v16 hv h => zU_c hTT hv ?_)
        refine zg_el h (fun hg h => zU_g hTT hg ?_)
        refine zl_el h (fun h => zU_l hTT ?_)
        refine zl_el h (fun h => zU_l hTT ?_)
        refine zl_el h (fun h => zU_l hTT ?_)
        refine zg_el h (fun hg h => zU_g hTT hg ?_)
        refine zl_el h (fun h => zU_l hTT ?_)
        refine zl_el h (fun h => zU_l hTT ?_)
        refine zg_el h (fun hg h => zU_g hTT hg ?_)
        refine zl_el h (fun h => zU_l hTT ?_)
        refine zb_el h (fun hb h => zU_t hTT hb ?_) (fun hb h => zU_f hTT hb ?_)
        · refine zl_el h (fun h => zU_l hTT ?_)
          refine zb_el h (fun hb h => zU_t hTT hb ?_) (fun hb h => zU_f hTT hb ?_)
          · rw [hTT]
            have hz := zsi h hq
            refine zR2_hp ?_ ?_ hz
            · first | with_reducible rfl | exact hA14_lr_read _ _ _ _ _ _ _ _ _ _ _ _ _ _ _
            · first | with_reducible rfl | exact hF15_lr_read _ _ _ _ _ _ _ _ _ _ _ _ _ _ _ _ _ _ _ _ _ _ _ _ _ _ _ _
          · refine zl_el h (fun h => zU_l hTT ?_)
            refine zl_el h (fun h => zU_l hTT ?_)
            rw [hTT]
            have hz := zsi h hq
            refine zR2_hp ?_ ?_ hz
            · first | with_reducible rfl | exact hA14_lr_read _ _ _ _ _ _ _ _ _ _ _ _ _ _ _
            · first | with_reducible rfl | exact hF16_lr_read _ _ _ _ _ _ _ _ _ _ _ _ _ _ _ _ _ _ _ _ _ _ _ _ _ _ _ _ _ _
        · refine zl_el h (fun h => zU_l hTT ?_)
          rw [hTT]
          have hz := zsi h hq
          refine zR2_hp ?_ ?_ hz
          · first | with_reducible rfl | exact hA14_lr_read _ _ _ _ _ _ _ _ _ _ _ _ _ _ _
          · first | with_reducible rfl | exact hF17_lr_read _ _ _ _ _ _ _ _ _ _ _ _ _ _ _ _ _ _ _ _ _ _ _ _ _ _ _ _ _
      · refine zb_el h (fun hb h => zU_t hTT hb ?_) (fun hb h => zU_f hTT hb ?_)
        · refine zg_el h (fun hg h => zU_g hTT hg ?_)
          refine zl_el h (fun h => zU_l hTT ?_)
          refine zg_el h (fun hg h => zU_g hTT hg ?_)
          refine zl_el h (fun h => zU_l hTT ?_)
          refine zl_el h (fun h => zU_l hTT ?_)
          refine zl_el h (fun h => zU_l hTT ?_)
          refine zbd_el h (fun v31 hv h => zU_c hTT hv ?_)
          refine zg_el h (fun hg h => zU_g hTT hg ?_)
          refine zl_el h (fun h => zU_l hTT ?_)
          refine zl_el h (fun h => zU_l hTT ?_)
          refine zl_el h (fun h => zU_l hTT ?_)
          refine zg_el h (fun hg h => zU_g hTT hg ?_)
          refine zl_el h (fun h => zU_l hTT ?_)
          refine zl_el h (fun h => zU_l hTT ?_)
          refine zg_el h (fun hg h => zU_g hTT hg ?_)
          refine zl_el h (fun h => zU_l hTT ?_)
          refine zb_el h (fun hb h => zU_t hTT hb ?_) (fun hb h => zU_f hTT hb ?_)
          · refine zl_el h (fun h => zU_l hTT ?_)
            refine zb_el h (fun hb h => zU_t hTT hb ?_) (fun hb h => zU_f hTT hb ?_)
            · rw [hTT]
              have hz := zsi h hq
              refine zR2_hp ?_ ?_ hz
              · first | with_reducible rfl | exact hA18_lr_read _ _ _ _ _ _ _ _ _ _ _ _ _
              · first | with_reducible rfl | exact hF19_lr_read _ _ _ _ _ _ _ _ _ _ _ _ _ _ _ _ _ _ _ _ _ _ _
            · refine zl_el h (fun h => zU_l hTT ?_)
              refine zl_el h (fun h => zU_l hTT ?_)
              rw [hTT]
              have hz := zsi h hq
              refine zR2_hp ?_ ?_ hz
              · first | with_reducible rfl | exact hA18_lr_read _ _ _ _ _ _ _ _ _ _ _ _ _
              · first | with_reducible rfl | exact hF20_lr_read _ _ _ _ _ _ _ _ _ _ _ _ _ _ _ _ _ _ _ _ _ _ _ _ _
          · refine zl_el h (fun h => zU_l hTT ?_)
            rw [hTT]
            have hz := zsi h hq
            refine zR2_hp ?_ ?_ hz
            · first | with_reducible rfl | exact hA18_lr_read _ _ _ _ _ _ _ _ _ _ _ _ _
            · first | with_reducible rfl | exact hF21_lr_read _ _ _ _ _ _ _ _ _ _ _ _ _ _ _ _ _ _ _ _ _ _ _ _
        · refine zbd_el h (fun v42 hv h => zU_c hTT hv ?_)
          refine zg_el h (fun hg h => zU_g hTT hg ?_)
          refine zl_el h (fun h => zU_l hTT ?_)
          refine zg_el h (fun hg h => zU_g hTT hg ?_)
          refine zl_el h (fun h => zU_l hTT ?_)
          refine zl_el h (fun h => zU_l hTT ?_)
          refine zl_el h (fun h => zU_l hTT ?_)
          refine zbd_el h (fun v47 hv h => zU_c hTT hv ?_)
          refine zg_el h (fun hg h => zU_g hTT hg ?_)
          refine zl_el h (fun h => zU_l hTT ?_)
          refine zl_el h (fun h => zU_l hTT ?_)
          refine zl_el h (fun h => zU_l hTT ?_)
          refine zg_el h (fun hg h => zU_g hTT hg ?_)
          refine zl_el h (fun h => zU_l hTT ?_)
          refine zl_el h (fun h => zU_l hTT ?_)
          refine zg_el h (fun hg h => zU_g hTT hg ?_)
          refine zl_el h (fun h => zU_l hTT ?_)
          refine zb_el h (fun hb h => zU_t hTT hb ?_) (fun hb h => zU_f hTT hb ?_)
          · refine zl_el h (fun h => zU_l hTT ?_)
            refine zb_el h (fun hb h => zU_t hTT hb ?_) (fun hb h => zU_f hTT hb ?_)
            · rw [hTT]
              have hz := zsi h hq
              refine zR2_hp ?_ ?_ hz
              · first | with_reducible rfl | exact hA14_lr_read _ _ _ _ _ _ _ _ _ _ _ _ _ _ _
              · first | with_reducible rfl | exact hF15_lr_read _ _ _ _ _ _ _ _ _ _ _ _ _ _ _ _ _ _ _ _ _ _ _ _ _ _ _ _
            · refine zl_el h (fun h => zU_l hTT ?_)
              refine zl_el h (fun h => zU_l hTT ?_)
              rw [hTT]
              have hz := zsi h hq
              refine zR2_hp ?_ ?_ hz
              · first | with_reducible rfl | exact hA14_lr_read _ _ _ _ _ _ _ _ _ _ _ _ _ _ _
              · first | with_reducible rfl | exact hF16_lr_read _ _ _ _ _ _ _ _ _ _ _ _ _ _ _ _ _ _ _ _ _ _ _ _ _ _ _ _ _ _
          · refine zl_el h (fun h => zU_l hTT ?_)
            rw [hTT]
            have hz := zsi h hq
            refine zR2_hp ?_ ?_ hz
            · first | with_reducible rfl | exact hA14_lr_read _ _ _ _ _ _ _ _ _ _ _ _ _ _ _
            · first | with_reducible rfl | exact hF17_lr_read _ _ _ _ _ _ _ _ _ _ _ _ _ _ _ _ _ _ _ _ _ _ _ _ _ _ _ _ _
set_option maxRecDepth 1000000 in
theorem t_lr_read_39_1_31 {X : Nat × (Nat → Int32)} {ar fi : Nat → Nat → Int32} {m1 m2 m3 m4 m5 : Nat} {y : Int32} {F0_tx_begin : Int32 → Int32} {F1_tx_begin : Int32 → Int32} {F2_tx_begin : Int32 → Int32} {F3_tx_begin : Int32 → Int32} {F0_lw_clear : Int32} {F1_lw_clear : Int32} {F2_lw_clear : Int32} {Q_lr_readLetter : Int32 → (Nat → Int32) → (Nat → Int32) → (Nat → Int32) → Int32 → Int32 → Int32 → Int32 → Int32 → Int32 → Option (Int32 × (Nat → Int32) × (Nat → Int32) × Int32 × Int32 × Int32)} {Q_lr_readAmount : Int32 → (Nat → Int32) → (Nat → Int32) → (Nat → Int32) → Int32 → Int32 → Int32 → Int32 → Int32 → Int32 → Option ((Nat → Int32) × (Nat → Int32) × Int32 × Int32 × Int32 × Int32 × Int32)} {G_lw_beginCondition : Int32 → (Nat → Int32) → Int32 → Bool} {A0_lw_beginCondition : Int32 → (Nat → Int32) → Int32 → Nat → Int32} {G_tx_expect : Int32 → Int32 → Int32 → Int32 → (Nat → Int32) → Int32 → Bool} {F0_tx_expect : Int32 → Int32 → Int32 → Int32 → (Nat → Int32) → Int32 → Int32} {F1_tx_expect : Int32 → Int32 → Int32 → Int32 → (Nat → Int32) → Int32 → Int32} {F2_tx_expect : Int32 → Int32 → Int32 → Int32 → (Nat → Int32) → Int32 → Int32} {Q_lr_readCondition : Int32 → (Nat → Int32) → (Nat → Int32) → (Nat → Int32) → Int32 → Int32 → Int32 → Int32 → Int32 → Int32 → Option ((Nat → Int32) × (Nat → Int32) × Int32 × Int32 × Int32 × Int32 × Int32)} {G_lw_endRule : Int32 → (Nat → Int32) → Int32 → Bool} {A0_lw_endRule : Int32 → (Nat → Int32) → Int32 → Nat → Int32} {F0_lw_endRule : Int32 → (Nat → Int32) → Int32 → Int32} {G_tx_sign : Int32 → Int32 → Int32 → (Nat → Int32) → Bool} {W_tx_sign : Int32 → Int32 → Int32 → (Nat → Int32) → Int32} {F0_tx_skip : Int32 → Int32} {W_tx_isAtEnd : Int32 → Int32 → Int32} {F0_tx_fail : Int32 → Int32 → Int32 → Int32 → Int32} {F1_tx_fail : Int32 → Int32 → Int32 → Int32 → Int32} {W_tx_answerOr : Int32 → Int32 → Int32 → Int32} : zseg X zFT (zEx 90 (P_tx_begin F0_tx_begin F1_tx_begin F2_tx_begin F3_tx_begin) (zEx 36 (P_lw_clear F0_lw_clear F1_lw_clear F2_lw_clear) (zEx 50 (P_lr_readLetter Q_lr_readLetter) (zEx 53 (P_lr_readAmount Q_lr_readAmount) (zEx 38 (P_lw_beginCondition G_lw_beginCondition A0_lw_beginCondition) (zEx 96 (P_tx_expect G_tx_expect F0_tx_expect F1_tx_expect F2_tx_expect) (zEx 51 (P_lr_readCondition Q_lr_readCondition) (zEx 39 (P_lw_endRule G_lw_endRule A0_lw_endRule F0_lw_endRule) (zEx 93 (P_tx_sign G_tx_sign W_tx_sign) (zEx 95 (P_tx_skip F0_tx_skip) (zEx 92 (P_tx_isAtEnd W_tx_isAtEnd) (zEx 97 (P_tx_fail F0_tx_fail F1_tx_fail) (zEx 99 (P_tx_answerOr W_tx_answerOr) zE0))))))))))))) zc_49 (fun p => Nat.beq p 19) 400 0 [.ref 39, .ref 1, .int y, .ref 31] [] (ar, fi, (m1, m2, m3, m4, m5)) = (
  zl (F0_tx_begin y) (fun v1 =>
  zl (F1_tx_begin y) (fun v2 =>
  zl (F2_tx_begin y) (fun v3 =>
  zl (F3_tx_begin y) (fun v4 =>
  zl (F0_lw_clear) (fun v5 =>
  zl (F1_lw_clear) (fun v6 =>
  zl (F2_lw_clear) (fun v7 =>
  some (.inl (19, [.ref 39, .ref 1, .int y, .ref 31, .int 1, .int 0], [], (ar, (zuf (zuf (zuf (zuf (zuf (zuf (zuf fi 40 1 v1) 40 2 v2) 40 3 v3) 40 4 v4) 31 7 v5) 31 8 v6) 31 9 v7), (m1, m2, 1, m4, m5))))))))))) : Option ((Nat × List Value × List Value × zH2) ⊕ zO2)) := by with_unfolding_all rfl
set_option maxRecDepth 20000 in
theorem e_lr_read_39_1_31 {X : Nat × (Nat → Int32)} {ar fi : Nat → Nat → Int32} {m1 m2 m3 m4 m5 : Nat} {y : Int32} {o : zO2} : ∀ (q : T_lr_read), q_lr_read y (ar 1) (ar 32) (ar 33) (ar 35) (ar 36) (ar 37) (ar 38) = some q → (fun t => O_lr_read_39_1_31 ar fi m1 m2 m3 m4 m5 t = o) q → zR2 X zFT (zEx 90 S_tx_begin (zEx 36 S_lw_clear (zEx 50 S_lr_readLetter (zEx 53 S_lr_readAmount (zEx 38 S_lw_beginCondition (zEx 96 S_tx_expect (zEx 51 S_lr_readCondition (zEx 39 S_lw_endRule (zEx 93 S_tx_sign (zEx 95 S_tx_skip (zEx 92 S_tx_isAtEnd (zEx 97 S_tx_fail (zEx 99 S_tx_answerOr zE0))))))))))))) zc_49 0 [.ref 39, .ref 1, .int y, .ref 31] [] (ar, fi, (m1, m2, m3, m4, m5)) o := by
  intro q h hq
  unfold q_lr_read at h
  refine zT_seg t_lr_read_39_1_31 ?_
  obtain ⟨TT, hTT⟩ : ∃ T, T = zT X zFT (zEx 90 S_tx_begin (zEx 36 S_lw_clear (zEx 50 S_lr_readLetter (zEx 53 S_lr_readAmount (zEx 38 S_lw_beginCondition (zEx 96 S_tx_expect (zEx 51 S_lr_readCondition (zEx 39 S_lw_endRule (zEx 93 S_tx_sign (zEx 95 S_tx_skip (zEx 92 S_tx_isAtEnd (zEx 97 S_tx_fail (zEx 99 S_tx_answerOr zE0))))))))))))) zc_49 o := ⟨_, rfl⟩
  rw [← hTT]
  refine zl_el h (fun h => zU_l hTT ?_)
  refine zl_el h (fun h => zU_l hTT ?_)
  refine zl_el h (fun h => zU_l hTT ?_)
  refine zl_el h (fun h => zU_l hTT ?_)
  refine zl_el h (fun h => zU_l hTT ?_)
  refine zl_el h (fun h => zU_l hTT ?_)
  refine zl_el h (fun h => zU_l hTT ?_)
  rw [hTT]
  refine zR2_hp ?_ ?_ (zlp_K (k_lr_read_19_39_1_31 (m3 := m3)) h hq)
  · first | with_reducible rfl | exact hA22_lr_read _
  · first | with_reducible rfl | exact hF23_lr_read _ _ _ _ _ _ _ _
theorem ok_lr_read (X : Nat × (Nat → Int32)) : zOkS X 49 S_lr_read 63 := zOkS_new (zOkE_cons (ok_tx_begin X) (by decide) (zOkE_cons (ok_lw_clear X) (by decide) (zOkE_cons (ok_lr_readLetter X) (by decide) (zOkE_cons (ok_lr_readAmount X) (by decide) (zOkE_cons (ok_lw_beginCondition X) (by decide) (zOkE_cons (ok_tx_expect X) (by decide) (zOkE_cons (ok_lr_readCondition X) (by decide) (zOkE_cons (ok_lw_endRule X) (by decide) (zOkE_cons (ok_tx_sign X) (by decide) (zOkE_cons (ok_tx_skip X) (by decide) (zOkE_cons (ok_tx_isAtEnd X) (by decide) (zOkE_cons (ok_tx_fail X) (by decide) (zOkE_cons (ok_tx_answerOr X) (by decide) (zOkE_nil X 62)))))))))))))) (by
  intro args g o h
  obtain ⟨ar, fi, m1, m2, m3, m4, m5⟩ := g
  unfold S_lr_read P_lr_read at h
  split at h
  · refine zb_el h (fun hI0 k0 => ?_) (fun _ h10 => ?_)
    · try simp only [Bool.and_eq_true] at hI0
      obtain ⟨⟨j0, j1⟩, j2⟩ := hI0
      have e0 := Nat.eq_of_beq_eq_true j0
      subst e0
      have e1 := Nat.eq_of_beq_eq_true j1
      subst e1
      have e2 := Nat.eq_of_beq_eq_true j2
      subst e2
      exact zpe_el k0 (fun t ht ho => by obtain ⟨t0, t1, t2, t3, t4, t5, t6, t7, t8, t9, t10, t11, t12, t13⟩ := t; exact e_lr_read_39_1_23 _ ht ho)
    · skip
      refine zb_el h10 (fun hI1 k1 => ?_) (fun _ h11 => ?_)
      · try simp only [Bool.and_eq_true] at hI1
        obtain ⟨⟨j0, j1⟩, j2⟩ := hI1
        have e0 := Nat.eq_of_beq_eq_true j0
        subst e0
        have e1 := Nat.eq_of_beq_eq_true j1
        subst e1
        have e2 := Nat.eq_of_beq_eq_true j2
        subst e2
        exact zpe_el k1 (fun t ht ho => by obtain ⟨t0, t1, t2, t3, t4, t5, t6, t7, t8, t9, t10, t11, t12, t13⟩ := t; exact e_lr_read_39_1_31 _ ht ho)
      · cases h11
  · cases h)
abbrev T_if_law : Type := Int32 × (Nat → Int32) × (Nat → Int32) × (Nat → Int32) × (Nat → Int32) × (Nat → Int32) × (Nat → Int32) × Int32 × Int32 × Int32 × Int32 × Int32 × Int32 × Int32 × Int32 × Nat
noncomputable def q_if_law (x : Int32) (a1 : Nat → Int32) (a32 : Nat → Int32) (a33 : Nat → Int32) (a35 : Nat → Int32) (a36 : Nat → Int32) (a37 : Nat → Int32) (a38 : Nat → Int32) (f0_1 : Int32) (f31_7 : Int32) (f31_8 : Int32) (f31_9 : Int32) (f40_1 : Int32) (f40_2 : Int32) (f40_3 : Int32) (f40_4 : Int32) : Option T_if_law :=
  zl (w_if_canTake x 1 240 (f0_1)) (fun v1 =>
  bif !decide (v1 = 0) then
   zbd (q_lr_read x a1 a32 a33 a35 a36 a37 a38) (fun v2 =>
   bif decide ((v2.1) < 0) then
    some ((v2.1), ((v2.2.1)), ((v2.2.2.1)), ((v2.2.2.2.1)), ((v2.2.2.2.2.1)), ((v2.2.2.2.2.2.1)), ((v2.2.2.2.2.2.2.1)), 0, (v2.2.2.2.2.2.2.2.1), (v2.2.2.2.2.2.2.2.2.1), (v2.2.2.2.2.2.2.2.2.2.1), (v2.2.2.2.2.2.2.2.2.2.2.1), (v2.2.2.2.2.2.2.2.2.2.2.2.1), (v2.2.2.2.2.2.2.2.2.2.2.2.2.1), (v2.2.2.2.2.2.2.2.2.2.2.2.2.2), 0)
   else
    some ((v2.1), ((v2.2.1)), ((v2.2.2.1)), ((v2.2.2.2.1)), ((v2.2.2.2.2.1)), ((v2.2.2.2.2.2.1)), ((v2.2.2.2.2.2.2.1)), 0, (v2.2.2.2.2.2.2.2.1), (v2.2.2.2.2.2.2.2.2.1), (v2.2.2.2.2.2.2.2.2.2.1), (v2.2.2.2.2.2.2.2.2.2.2.1), (v2.2.2.2.2.2.2.2.2.2.2.2.1), (v2.2.2.2.2.2.2.2.2.2.2.2.2.1), (v2.2.2.2.2.2.2.2.2.2.2.2.2.2), 1))
  else
   some ((-1), a32, a33, a35, a36, a37, a38, f0_1, f31_7, f31_8, f31_9, f40_1, f40_2, f40_3, f40_4, 2))
def P_if_law (Q : Int32 → (Nat → Int32) → (Nat → Int32) → (Nat → Int32) → (Nat → Int32) → (Nat → Int32) → (Nat → Int32) → (Nat → Int32) → Int32 → Int32 → Int32 → Int32 → Int32 → Int32 → Int32 → Int32 → Option (Int32 × (Nat → Int32) × (Nat → Int32) × (Nat → Int32) × (Nat → Int32) × (Nat → Int32) × (Nat → Int32) × Int32 × Int32 × Int32 × Int32 × Int32 × Int32 × Int32 × Int32 × Nat)) : zSp := fun as g => match as with
  | [.ref a, .int x] => bif Nat.beq a 0 && Nat.beq g.2.2.1 23 && Nat.beq g.2.2.2.1 31 then zpe (Q x (g.1 1) (g.1 32) (g.1 33) (g.1 35) (g.1 36) (g.1 37) (g.1 38) (g.2.1 0 1) (g.2.1 31 7) (g.2.1 31 8) (g.2.1 31 9) (g.2.1 40 1) (g.2.1 40 2) (g.2.1 40 3) (g.2.1 40 4)) (fun t => (some (.int (t.1)), ((zua (zua (zua (zua (zua (zua g.1 32 t.2.1) 33 t.2.2.1) 35 t.2.2.2.1) 36 t.2.2.2.2.1) 37 t.2.2.2.2.2.1) 38 t.2.2.2.2.2.2.1), (zuf (zuf (zuf (zuf (zuf (zuf (zuf (zuf g.2.1 0 1 t.2.2.2.2.2.2.2.1) 31 7 t.2.2.2.2.2.2.2.2.1) 31 8 t.2.2.2.2.2.2.2.2.2.1) 31 9 t.2.2.2.2.2.2.2.2.2.2.1) 40 1 t.2.2.2.2.2.2.2.2.2.2.2.1) 40 2 t.2.2.2.2.2.2.2.2.2.2.2.2.1) 40 3 t.2.2.2.2.2.2.2.2.2.2.2.2.2.1) 40 4 t.2.2.2.2.2.2.2.2.2.2.2.2.2.2.1), (bif Nat.beq t.2.2.2.2.2.2.2.2.2.2.2.2.2.2.2 0 then (23, 31, 1, g.2.2.2.2.2.1, g.2.2.2.2.2.2) else (bif Nat.beq t.2.2.2.2.2.2.2.2.2.2.2.2.2.2.2 1 then (31, 23, 1, g.2.2.2.2.2.1, g.2.2.2.2.2.2) else (23, 31, g.2.2.2.2.1, g.2.2.2.2.2.1, g.2.2.2.2.2.2)))))) else bif Nat.beq a 0 && Nat.beq g.2.2.1 31 && Nat.beq g.2.2.2.1 23 then zpe (Q x (g.1 1) (g.1 24) (g.1 25) (g.1 27) (g.1 28) (g.1 29) (g.1 30) (g.2.1 0 1) (g.2.1 23 7) (g.2.1 23 8) (g.2.1 23 9) (g.2.1 40 1) (g.2.1 40 2) (g.2.1 40 3) (g.2.1 40 4)) (fun t => (some (.int (t.1)), ((zua (zua (zua (zua (zua (zua g.1 24 t.2.1) 25 t.2.2.1) 27 t.2.2.2.1) 28 t.2.2.2.2.1) 29 t.2.2.2.2.2.1) 30 t.2.2.2.2.2.2.1), (zuf (zuf (zuf (zuf (zuf (zuf (zuf (zuf g.2.1 0 1 t.2.2.2.2.2.2.2.1) 23 7 t.2.2.2.2.2.2.2.2.1) 23 8 t.2.2.2.2.2.2.2.2.2.1) 23 9 t.2.2.2.2.2.2.2.2.2.2.1) 40 1 t.2.2.2.2.2.2.2.2.2.2.2.1) 40 2 t.2.2.2.2.2.2.2.2.2.2.2.2.1) 40 3 t.2.2.2.2.2.2.2.2.2.2.2.2.2.1) 40 4 t.2.2.2.2.2.2.2.2.2.2.2.2.2.2.1), (bif Nat.beq t.2.2.2.2.2.2.2.2.2.2.2.2.2.2.2 0 then (31, 23, 1, g.2.2.2.2.2.1, g.2.2.2.2.2.2) else (bif Nat.beq t.2.2.2.2.2.2.2.2.2.2.2.2.2.2.2 1 then (23, 31, 1, g.2.2.2.2.2.1, g.2.2.2.2.2.2) else (31, 23, g.2.2.2.2.1, g.2.2.2.2.2.1, g.2.2.2.2.2.2)))))) else none
  | _ => none
noncomputable abbrev S_if_law : zSp := P_if_law q_if_law
theorem hF7_if_law (F : Nat → Nat → Int32) : F = (zuf (zuf (zuf (zuf (zuf (zuf (zuf (zuf F 0 1 (F 0 1)) 23 7 (F 23 7)) 23 8 (F 23 8)) 23 9 (F 23 9)) 40 1 (F 40 1)) 40 2 (F 40 2)) 40 3 (F 40 3)) 40 4 (F 40 4)) := zufk_ix F [] [((0, 1), none), ((23, 7), none), ((23, 8), none), ((23, 9), none), ((40, 1), none), ((40, 2), none), ((40, 3), none), ((40, 4), none)] rfl
theorem hA6_if_law (F : Nat → Nat → Int32) : F = (zua (zua (zua (zua (zua (zua F 24 (F 24)) 25 (F 25)) 27 (F 27)) 28 (F 28)) 29 (F 29)) 30 (F 30)) := zuak_ix F [] [(24, none), (25, none), (27, none), (28, none), (29, none), (30, none)] rfl
theorem hF5_if_law (F : Nat → Nat → Int32) (w0 w1 w2 w3 w4 w5 w6 w7 : Int32) : (zuf (zuf (zuf (zuf (zuf (zuf (zuf (zuf F 0 1 w0) 23 7 w1) 23 8 w2) 23 9 w3) 40 1 w4) 40 2 w5) 40 3 w6) 40 4 w7) = (zuf (zuf (zuf (zuf (zuf (zuf (zuf (zuf F 0 1 w0) 23 7 w1) 23 8 w2) 23 9 w3) 40 1 w4) 40 2 w5) 40 3 w6) 40 4 w7) := zufk_ix F [((0, 1), w0), ((23, 7), w1), ((23, 8), w2), ((23, 9), w3), ((40, 1), w4), ((40, 2), w5), ((40, 3), w6), ((40, 4), w7)] [((0, 1), some 0), ((23, 7), some 1), ((23, 8), some 2), ((23, 9), some 3), ((40, 1), some 4), ((40, 2), some 5), ((40, 3), some 6), ((40, 4), some 7)] rfl
theorem hA4_if_law (F : Nat → Nat → Int32) (w0 w1 w2 w3 w4 w5 : Nat → Int32) : (zua (zua (zua (zua (zua (zua F 24 w0) 25 w1) 27 w2) 28 w3) 29 w4) 30 w5) = (zua (zua (zua (zua (zua (zua F 24 w0) 25 w1) 27 w2) 28 w3) 29 w4) 30 w5) := zuak_ix F [(24, w0), (25, w1), (27, w2), (28, w3), (29, w4), (30, w5)] [(24, some 0), (25, some 1), (27, some 2), (28, some 3), (29, some 4), (30, some 5)] rfl
theorem hF3_if_law (F : Nat → Nat → Int32) : F = (zuf (zuf (zuf (zuf (zuf (zuf (zuf (zuf F 0 1 (F 0 1)) 31 7 (F 31 7)) 31 8 (F 31 8)) 31 9 (F 31 9)) 40 1 (F 40 1)) 40 2 (F 40 2)) 40 3 (F 40 3)) 40 4 (F 40 4)) := zufk_ix F [] [((0, 1), none), ((31, 7), none), ((31, 8), none), ((31, 9), none), ((40, 1), none), ((40, 2), none), ((40, 3), none), ((40, 4), none)] rfl
theorem hA2_if_law (F : Nat → Nat → Int32) : F = (zua (zua (zua (zua (zua (zua F 32 (F 32)) 33 (F 33)) 35 (F 35)) 36 (F 36)) 37 (F 37)) 38 (F 38)) := zuak_ix F [] [(32, none), (33, none), (35, none), (36, none), (37, none), (38, none)] rfl
theorem hF1_if_law (F : Nat → Nat → Int32) (w0 w1 w2 w3 w4 w5 w6 w7 : Int32) : (zuf (zuf (zuf (zuf (zuf (zuf (zuf (zuf F 0 1 w0) 31 7 w1) 31 8 w2) 31 9 w3) 40 1 w4) 40 2 w5) 40 3 w6) 40 4 w7) = (zuf (zuf (zuf (zuf (zuf (zuf (zuf (zuf F 0 1 w0) 31 7 w1) 31 8 w2) 31 9 w3) 40 1 w4) 40 2 w5) 40 3 w6) 40 4 w7) := zufk_ix F [((0, 1), w0), ((31, 7), w1), ((31, 8), w2), ((31, 9), w3), ((40, 1), w4), ((40, 2), w5), ((40, 3), w6), ((40, 4), w7)] [((0, 1), some 0), ((31, 7), some 1), ((31, 8), some 2), ((31, 9), some 3), ((40, 1), some 4), ((40, 2), some 5), ((40, 3), some 6), ((40, 4), some 7)] rfl
theorem hA0_if_law (F : Nat → Nat → Int32) (w0 w1 w2 w3 w4 w5 : Nat → Int32) : (zua (zua (zua (zua (zua (zua F 32 w0) 33 w1) 35 w2) 36 w3) 37 w4) 38 w5) = (zua (zua (zua (zua (zua (zua F 32 w0) 33 w1) 35 w2) 36 w3) 37 w4) 38 w5) := zuak_ix F [(32, w0), (33, w1), (35, w2), (36, w3), (37, w4), (38, w5)] [(32, some 0), (33, some 1), (35, some 2), (36, some 3), (37, some 4), (38, some 5)] rfl
def O_if_law_0_v0 (ar fi : Nat → Nat → Int32) (m3 : Nat) (m4 : Nat) (m5 : Nat) (t : T_if_law) : zO2 := match t with
  | (t0, t1, t2, t3, t4, t5, t6, t7, t8, t9, t10, t11, t12, t13, t14, t15) => (some (.int (t0)), ((zua (zua (zua (zua (zua (zua ar 32 t1) 33 t2) 35 t3) 36 t4) 37 t5) 38 t6), (zuf (zuf (zuf (zuf (zuf (zuf (zuf (zuf fi 0 1 t7) 31 7 t8) 31 8 t9) 31 9 t10) 40 1 t11) 40 2 t12) 40 3 t13) 40 4 t14), (bif Nat.beq t15 0 then (23, 31, 1, m4, m5) else (bif Nat.beq t15 1 then (31, 23, 1, m4, m5) else (23, 31, m3, m4, m5)))))
set_option maxRecDepth 1000000 in
theorem t_if_law_0_v0 {X : Nat × (Nat → Int32)} {ar fi : Nat → Nat → Int32} {m3 m4 m5 : Nat} {x : Int32} {W_if_canTake : Int32 → Int32 → Int32 → Int32 → Int32} {Q_lr_read : Int32 → (Nat → Int32) → (Nat → Int32) → (Nat → Int32) → (Nat → Int32) → (Nat → Int32) → (Nat → Int32) → (Nat → Int32) → Option (Int32 × (Nat → Int32) × (Nat → Int32) × (Nat → Int32) × (Nat → Int32) × (Nat → Int32) × (Nat → Int32) × Int32 × Int32 × Int32 × Int32 × Int32 × Int32 × Int32)} : zseg X zFT (zEx 136 (P_if_canTake W_if_canTake) (zEx 49 (P_lr_read Q_lr_read) zE0)) zc_110 (fun p => false) 400 0 [.ref 0, .int x] [] (ar, fi, (23, 31, m3, m4, m5)) = (
  zl (W_if_canTake x 1 240 (fi 0 1)) (fun v1 =>
  bif !decide (v1 = 0) then
   zl (Q_lr_read x (ar 1) (ar 32) (ar 33) (ar 35) (ar 36) (ar 37) (ar 38)) (fun v2 => zg v2.isSome (
   bif decide (((zgt v2).1) < 0) then
    some (.inr (some (.int (((zgt v2).1))), ((zua (zua (zua (zua (zua (zua ar 32 (((zgt v2).2.1))) 33 (((zgt v2).2.2.1))) 35 (((zgt v2).2.2.2.1))) 36 (((zgt v2).2.2.2.2.1))) 37 (((zgt v2).2.2.2.2.2.1))) 38 (((zgt v2).2.2.2.2.2.2.1))), (zuf (zuf (zuf (zuf (zuf (zuf (zuf (zuf fi 0 1 0) 31 7 (((zgt v2).2.2.2.2.2.2.2.1))) 31 8 (((zgt v2).2.2.2.2.2.2.2.2.1))) 31 9 (((zgt v2).2.2.2.2.2.2.2.2.2.1))) 40 1 (((zgt v2).2.2.2.2.2.2.2.2.2.2.1))) 40 2 (((zgt v2).2.2.2.2.2.2.2.2.2.2.2.1))) 40 3 (((zgt v2).2.2.2.2.2.2.2.2.2.2.2.2.1))) 40 4 (((zgt v2).2.2.2.2.2.2.2.2.2.2.2.2.2))), (23, 31, 1, m4, m5))))
   else
    some (.inr (some (.int (((zgt v2).1))), ((zua (zua (zua (zua (zua (zua ar 32 (((zgt v2).2.1))) 33 (((zgt v2).2.2.1))) 35 (((zgt v2).2.2.2.1))) 36 (((zgt v2).2.2.2.2.1))) 37 (((zgt v2).2.2.2.2.2.1))) 38 (((zgt v2).2.2.2.2.2.2.1))), (zuf (zuf (zuf (zuf (zuf (zuf (zuf (zuf fi 0 1 0) 31 7 (((zgt v2).2.2.2.2.2.2.2.1))) 31 8 (((zgt v2).2.2.2.2.2.2.2.2.1))) 31 9 (((zgt v2).2.2.2.2.2.2.2.2.2.1))) 40 1 (((zgt v2).2.2.2.2.2.2.2.2.2.2.1))) 40 2 (((zgt v2).2.2.2.2.2.2.2.2.2.2.2.1))) 40 3 (((zgt v2).2.2.2.2.2.2.2.2.2.2.2.2.1))) 40 4 (((zgt v2).2.2.2.2.2.2.2.2.2.2.2.2.2))), (31, 23, 1, m4, m5))))))
  else
   some (.inr (some (.int (-1)), (ar, fi, (23, 31, m3, m4, m5))))) : Option ((Nat × List Value × List Value × zH2) ⊕ zO2)) := by with_unfolding_all rfl
set_option maxRecDepth 20000 in
theorem e_if_law_0_v0 {X : Nat × (Nat → Int32)} {ar fi : Nat → Nat → Int32} {m3 m4 m5 : Nat} {x : Int32} {o : zO2} : ∀ (q : T_if_law), q_if_law x (ar 1) (ar 32) (ar 33) (ar 35) (ar 36) (ar 37) (ar 38) (fi 0 1) (fi 31 7) (fi 31 8) (fi 31 9) (fi 40 1) (fi 40 2) (fi 40 3) (fi 40 4) = some q → (fun t => O_if_law_0_v0 ar fi m3 m4 m5 t = o) q → zR2 X zFT (zEx 136 S_if_canTake (zEx 49 S_lr_read zE0)) zc_110 0 [.ref 0, .int x] [] (ar, fi, (23, 31, m3, m4, m5)) o := by
  intro q h hq
  unfold q_if_law at h
  refine zT_seg t_if_law_0_v0 ?_
  obtain ⟨TT, hTT⟩ : ∃ T, T = zT X zFT (zEx 136 S_if_canTake (zEx 49 S_lr_read zE0)) zc_110 o := ⟨_, rfl⟩
  rw [← hTT]
  refine zl_el h (fun h => zU_l hTT ?_)
  refine zb_el h (fun hb h => zU_t hTT hb ?_) (fun hb h => zU_f hTT hb ?_)
  · refine zbd_el h (fun v2 hv h => zU_c hTT hv ?_)
    refine zb_el h (fun hb h => zU_t hTT hb ?_) (fun hb h => zU_f hTT hb ?_)
    · rw [hTT]
      have hz := zsi (P := (fun t => O_if_law_0_v0 ar fi m3 m4 m5 t = o)) h hq
      refine (zO_mk ?_ ?_).trans hz
      · first | with_reducible rfl | exact hA0_if_law _ _ _ _ _ _ _
      · first | with_reducible rfl | exact hF1_if_law _ _ _ _ _ _ _ _ _
    · rw [hTT]
      have hz := zsi (P := (fun t => O_if_law_0_v0 ar fi m3 m4 m5 t = o)) h hq
      refine (zO_mk ?_ ?_).trans hz
      · first | with_reducible rfl | exact hA0_if_law _ _ _ _ _ _ _
      · first | with_reducible rfl | exact hF1_if_law _ _ _ _ _ _ _ _ _
  · rw [hTT]
    have hz := zsi (P := (fun t => O_if_law_0_v0 ar fi m3 m4 m5 t = o)) h hq
    refine (zO_mk ?_ ?_).trans hz
    · first | with_reducible rfl | exact hA2_if_law _
    · first | with_reducible rfl | exact hF3_if_law _
def O_if_law_0_v1 (ar fi : Nat → Nat → Int32) (m3 : Nat) (m4 : Nat) (m5 : Nat) (t : T_if_law) : zO2 := match t with
  | (t0, t1, t2, t3, t4, t5, t6, t7, t8, t9, t10, t11, t12, t13, t14, t15) => (some (.int (t0)), ((zua (zua (zua (zua (zua (zua ar 24 t1) 25 t2) 27 t3) 28 t4) 29 t5) 30 t6), (zuf (zuf (zuf (zuf (zuf (zuf (zuf (zuf fi 0 1 t7) 23 7 t8) 23 8 t9) 23 9 t10) 40 1 t11) 40 2 t12) 40 3 t13) 40 4 t14), (bif Nat.beq t15 0 then (31, 23, 1, m4, m5) else (bif Nat.beq t15 1 then (23, 31, 1, m4, m5) else (31, 23, m3, m4, m5)))))
set_option maxRecDepth 1000000 in
theorem t_if_law_0_v1 {X : Nat × (Nat → Int32)} {ar fi : Nat → Nat → Int32} {m3 m4 m5 : Nat} {x : Int32} {W_if_canTake : Int32 → Int32 → Int32 → Int32 → Int32} {Q_lr_read : Int32 → (Nat → Int32) → (Nat → Int32) → (Nat → Int32) → (Nat → Int32) → (Nat → Int32) → (Nat → Int32) → (Nat → Int32) → Option (Int32 × (Nat → Int32) × (Nat → Int32) × (Nat → Int32) × (Nat → Int32) × (Nat → Int32) × (Nat → Int32) × Int32 × Int32 × Int32 × Int32 × Int32 × Int32 × Int32)} : zseg X zFT (zEx 136 (P_if_canTake W_if_canTake) (zEx 49 (P_lr_read Q_lr_read) zE0)) zc_110 (fun p => false) 400 0 [.ref 0, .int x] [] (ar, fi, (31, 23, m3, m4, m5)) = (
  zl (W_if_canTake x 1 240 (fi 0 1)) (fun v1 =>
  bif !decide (v1 = 0) then
   zl (Q_lr_read x (ar 1) (ar 24) (ar 25) (ar 27) (ar 28) (ar 29) (ar 30)) (fun v2 => zg v2.isSome (
   bif decide (((zgt v2).1) < 0) then
    some (.inr (some (.int (((zgt v2).1))), ((zua (zua (zua (zua (zua (zua ar 24 (((zgt v2).2.1))) 25 (((zgt v2).2.2.1))) 27 (((zgt v2).2.2.2.1))) 28 (((zgt v2).2.2.2.2.1))) 29 (((zgt v2).2.2.2.2.2.1))) 30 (((zgt v2).2.2.2.2.2.2.1))), (zuf (zuf (zuf (zuf (zuf (zuf (zuf (zuf fi 0 1 0) 23 7 (((zgt v2).2.2.2.2.2.2.2.1))) 23 8 (((zgt v2).2.2.2.2.2.2.2.2.1))) 23 9 (((zgt v2).2.2.2.2.2.2.2.2.2.1))) 40 1 (((zgt v2).2.2.2.2.2.2.2.2.2.2.1))) 40 2 (((zgt v2).2.2.2.2.2.2.2.2.2.2.2.1))) 40 3 (((zgt v2).2.2.2.2.2.2.2.2.2.2.2.2.1))) 40 4 (((zgt v2).2.2.2.2.2.2.2.2.2.2.2.2.2))), (31, 23, 1, m4, m5))))
   else
    some (.inr (some (.int (((zgt v2).1))), ((zua (zua (zua (zua (zua (zua ar 24 (((zgt v2).2.1))) 25 (((zgt v2).2.2.1))) 27 (((zgt v2).2.2.2.1))) 28 (((zgt v2).2.2.2.2.1))) 29 (((zgt v2).2.2.2.2.2.1))) 30 (((zgt v2).2.2.2.2.2.2.1))), (zuf (zuf (zuf (zuf (zuf (zuf (zuf (zuf fi 0 1 0) 23 7 (((zgt v2).2.2.2.2.2.2.2.1))) 23 8 (((zgt v2).2.2.2.2.2.2.2.2.1))) 23 9 (((zgt v2).2.2.2.2.2.2.2.2.2.1))) 40 1 (((zgt v2).2.2.2.2.2.2.2.2.2.2.1))) 40 2 (((zgt v2).2.2.2.2.2.2.2.2.2.2.2.1))) 40 3 (((zgt v2).2.2.2.2.2.2.2.2.2.2.2.2.1))) 40 4 (((zgt v2).2.2.2.2.2.2.2.2.2.2.2.2.2))), (23, 31, 1, m4, m5))))))
  else
   some (.inr (some (.int (-1)), (ar, fi, (31, 23, m3, m4, m5))))) : Option ((Nat × List Value × List Value × zH2) ⊕ zO2)) := by with_unfolding_all rfl
set_option maxRecDepth 20000 in
theorem e_if_law_0_v1 {X : Nat × (Nat → Int32)} {ar fi : Nat → Nat → Int32} {m3 m4 m5 : Nat} {x : Int32} {o : zO2} : ∀ (q : T_if_law), q_if_law x (ar 1) (ar 24) (ar 25) (ar 27) (ar 28) (ar 29) (ar 30) (fi 0 1) (fi 23 7) (fi 23 8) (fi 23 9) (fi 40 1) (fi 40 2) (fi 40 3) (fi 40 4) = some q → (fun t => O_if_law_0_v1 ar fi m3 m4 m5 t = o) q → zR2 X zFT (zEx 136 S_if_canTake (zEx 49 S_lr_read zE0)) zc_110 0 [.ref 0, .int x] [] (ar, fi, (31, 23, m3, m4, m5)) o := by
  intro q h hq
  unfold q_if_law at h
  refine zT_seg t_if_law_0_v1 ?_
  obtain ⟨TT, hTT⟩ : ∃ T, T = zT X zFT (zEx 136 S_if_canTake (zEx 49 S_lr_read zE0)) zc_110 o := ⟨_, rfl⟩
  rw [← hTT]
  refine zl_el h (fun h => zU_l hTT ?_)
  refine zb_el h (fun hb h => zU_t hTT hb ?_) (fun hb h => zU_f hTT hb ?_)
  · refine zbd_el h (fun v2 hv h => zU_c hTT hv ?_)
    refine zb_el h (fun hb h => zU_t hTT hb ?_) (fun hb h => zU_f hTT hb ?_)
    · rw [hTT]
      have hz := zsi (P := (fun t => O_if_law_0_v1 ar fi m3 m4 m5 t = o)) h hq
      refine (zO_mk ?_ ?_).trans hz
      · first | with_reducible rfl | exact hA4_if_law _ _ _ _ _ _ _
      · first | with_reducible rfl | exact hF5_if_law _ _ _ _ _ _ _ _ _
    · rw [hTT]
      have hz := zsi (P := (fun t => O_if_law_0_v1 ar fi m3 m4 m5 t = o)) h hq
      refine (zO_mk ?_ ?_).trans hz
      · first | with_reducible rfl | exact hA4_if_law _ _ _ _ _ _ _
      · first | with_reducible rfl | exact hF5_if_law _ _ _ _ _ _ _ _ _
  · rw [hTT]
    have hz := zsi (P := (fun t => O_if_law_0_v1 ar fi m3 m4 m5 t = o)) h hq
    refine (zO_mk ?_ ?_).trans hz
    · first | with_reducible rfl | exact hA6_if_law _
    · first | with_reducible rfl | exact hF7_if_law _
theorem ok_if_law (X : Nat × (Nat → Int32)) : zOkS X 110 S_if_law 64 := zOkS_new (zOkE_cons (ok_if_canTake X) (by decide) (zOkE_cons (ok_lr_read X) (by decide) (zOkE_nil X 63))) (by
  intro args g o h
  obtain ⟨ar, fi, m1, m2, m3, m4, m5⟩ := g
  unfold S_if_law P_if_law at h
  split at h
  · refine zb_el h (fun hI0 k0 => ?_) (fun _ h10 => ?_)
    · try simp only [Bool.and_eq_true] at hI0
      obtain ⟨⟨j0, j1⟩, j2⟩ := hI0
      have e0 := Nat.eq_of_beq_eq_true j0
      subst e0
      have e9 : m1 = 23 := Nat.eq_of_beq_eq_true j1
      subst e9
      have e10 : m2 = 31 := Nat.eq_of_beq_eq_true j2
      subst e10
      exact zpe_el k0 (fun t ht ho => by obtain ⟨t0, t1, t2, t3, t4, t5, t6, t7, t8, t9, t10, t11, t12, t13, t14, t15⟩ := t; exact e_if_law_0_v0 _ ht ho)
    · skip
      refine zb_el h10 (fun hI1 k1 => ?_) (fun _ h11 => ?_)
      · try simp only [Bool.and_eq_true] at hI1
        obtain ⟨⟨j0, j1⟩, j2⟩ := hI1
        have e0 := Nat.eq_of_beq_eq_true j0
        subst e0
        have e9 : m1 = 31 := Nat.eq_of_beq_eq_true j1
        subst e9
        have e10 : m2 = 23 := Nat.eq_of_beq_eq_true j2
        subst e10
        exact zpe_el k1 (fun t ht ho => by obtain ⟨t0, t1, t2, t3, t4, t5, t6, t7, t8, t9, t10, t11, t12, t13, t14, t15⟩ := t; exact e_if_law_0_v1 _ ht ho)
      · cases h11
  · cases h)
