abbrev T_lr_readAmount : Type := (Nat → Int32) × (Nat → Int32) × Int32 × Int32 × Int32 × Int32 × Int32
abbrev U_lr_readAmount_11 : Type := Int32 × Int32 × (Nat → Int32) × (Nat → Int32) × Int32 × Int32 × Int32 × Int32 × Int32
noncomputable def b_lr_readAmount_11 (Q_lr_readCondition : Int32 → (Nat → Int32) → (Nat → Int32) → (Nat → Int32) → Int32 → Int32 → Int32 → Int32 → Int32 → Int32 → Option ((Nat → Int32) × (Nat → Int32) × Int32 × Int32 × Int32 × Int32 × Int32)) (Q_lr_readTest : Int32 → (Nat → Int32) → (Nat → Int32) → (Nat → Int32) → Int32 → Int32 → Int32 → Int32 → Int32 → Int32 → Option ((Nat → Int32) × (Nat → Int32) × Int32 × Int32 × Int32 × Int32 × Int32)) (Q_lr_readAmount : Int32 → (Nat → Int32) → (Nat → Int32) → (Nat → Int32) → Int32 → Int32 → Int32 → Int32 → Int32 → Int32 → Option ((Nat → Int32) × (Nat → Int32) × Int32 × Int32 × Int32 × Int32 × Int32)) (Q_lr_readFactor : Int32 → (Nat → Int32) → (Nat → Int32) → (Nat → Int32) → Int32 → Int32 → Int32 → Int32 → Int32 → Int32 → Option ((Nat → Int32) × (Nat → Int32) × Int32 × Int32 × Int32 × Int32 × Int32)) (y : Int32) (a1 : Nat → Int32) (f40_1 : Int32) (l3 : Int32) (l4 : Int32) (b24 : Nat → Int32) (b25 : Nat → Int32) (c23_7 : Int32) (c23_8 : Int32) (c40_2 : Int32) (c40_3 : Int32) (c40_4 : Int32) : Option (U_lr_readAmount_11 ⊕ T_lr_readAmount) :=
  bif decide (240 ≤ l4) then
   some (.inr (b24, b25, c23_7, c23_8, c40_2, c40_3, c40_4))
  else
   zg (g_tx_sign c40_2 c40_4 (f40_1) a1) (
   zl (w_tx_sign c40_2 c40_4 (f40_1) a1) (fun v2 =>
   bif decide (v2 = 42) then
    zl (f0_tx_skip c40_4) (fun v3 =>
    zbd (Q_lr_readFactor y a1 b24 b25 c23_7 c23_8 (f40_1) c40_2 c40_3 v3) (fun v4 =>
    zg (g_lw_emit v2 0 ((v4.2.2.1)) ((v4.1)) ((v4.2.1)) ((v4.2.2.2.1))) (
    zl (w_lw_emit v2 0 ((v4.2.2.1)) ((v4.1)) ((v4.2.1)) ((v4.2.2.2.1))) (fun v5 =>
    zl (a0_lw_emit v2 0 ((v4.2.2.1)) ((v4.1)) ((v4.2.1)) ((v4.2.2.2.1))) (fun v6 =>
    zl (a1_lw_emit v2 0 ((v4.2.2.1)) ((v4.1)) ((v4.2.1)) ((v4.2.2.2.1))) (fun v7 =>
    zl (f0_lw_emit v2 0 ((v4.2.2.1)) ((v4.1)) ((v4.2.1)) ((v4.2.2.2.1))) (fun v8 =>
    zl (f1_lw_emit v2 0 ((v4.2.2.1)) ((v4.1)) ((v4.2.1)) ((v4.2.2.2.1))) (fun v9 =>
    some (.inl (l3, l4 + 1, v6, v7, v8, v9, (v4.2.2.2.2.1), (v4.2.2.2.2.2.1), (v4.2.2.2.2.2.2)))))))))))
   else
    bif decide (v2 = 47) then
     zl (f0_tx_skip c40_4) (fun v10 =>
     zbd (Q_lr_readFactor y a1 b24 b25 c23_7 c23_8 (f40_1) c40_2 c40_3 v10) (fun v11 =>
     zg (g_lw_emit v2 0 ((v11.2.2.1)) ((v11.1)) ((v11.2.1)) ((v11.2.2.2.1))) (
     zl (w_lw_emit v2 0 ((v11.2.2.1)) ((v11.1)) ((v11.2.1)) ((v11.2.2.2.1))) (fun v12 =>
     zl (a0_lw_emit v2 0 ((v11.2.2.1)) ((v11.1)) ((v11.2.1)) ((v11.2.2.2.1))) (fun v13 =>
     zl (a1_lw_emit v2 0 ((v11.2.2.1)) ((v11.1)) ((v11.2.1)) ((v11.2.2.2.1))) (fun v14 =>
     zl (f0_lw_emit v2 0 ((v11.2.2.1)) ((v11.1)) ((v11.2.1)) ((v11.2.2.2.1))) (fun v15 =>
     zl (f1_lw_emit v2 0 ((v11.2.2.1)) ((v11.1)) ((v11.2.1)) ((v11.2.2.2.1))) (fun v16 =>
     some (.inl (l3, l4 + 1, v13, v14, v15, v16, (v11.2.2.2.2.1), (v11.2.2.2.2.2.1), (v11.2.2.2.2.2.2)))))))))))
    else
     bif !decide (v2 = 37) then
      bif decide (l3 = 0) then
       bif decide (v2 = 43) then
        zl (f0_tx_skip c40_4) (fun v17 =>
        zbd (Q_lr_readFactor y a1 b24 b25 c23_7 c23_8 (f40_1) c40_2 c40_3 v17) (fun v18 =>
        some (.inl (v2, l4 + 1, ((v18.1)), ((v18.2.1)), (v18.2.2.1), (v18.2.2.2.1), (v18.2.2.2.2.1), (v18.2.2.2.2.2.1), (v18.2.2.2.2.2.2)))))
       else
        bif decide (v2 = 45) then
         zl (f0_tx_skip c40_4) (fun v19 =>
         zbd (Q_lr_readFactor y a1 b24 b25 c23_7 c23_8 (f40_1) c40_2 c40_3 v19) (fun v20 =>
         some (.inl (v2, l4 + 1, ((v20.1)), ((v20.2.1)), (v20.2.2.1), (v20.2.2.2.1), (v20.2.2.2.2.1), (v20.2.2.2.2.2.1), (v20.2.2.2.2.2.2)))))
        else
         some (.inr (b24, b25, c23_7, c23_8, c40_2, c40_3, c40_4))
      else
       zg (g_lw_emit l3 0 c23_7 b24 b25 c23_8) (
       zl (w_lw_emit l3 0 c23_7 b24 b25 c23_8) (fun v21 =>
       zl (a0_lw_emit l3 0 c23_7 b24 b25 c23_8) (fun v22 =>
       zl (a1_lw_emit l3 0 c23_7 b24 b25 c23_8) (fun v23 =>
       zl (f0_lw_emit l3 0 c23_7 b24 b25 c23_8) (fun v24 =>
       zl (f1_lw_emit l3 0 c23_7 b24 b25 c23_8) (fun v25 =>
       bif decide (v2 = 43) then
        zl (f0_tx_skip c40_4) (fun v26 =>
        zbd (Q_lr_readFactor y a1 v22 v23 v24 v25 (f40_1) c40_2 c40_3 v26) (fun v27 =>
        some (.inl (v2, l4 + 1, ((v27.1)), ((v27.2.1)), (v27.2.2.1), (v27.2.2.2.1), (v27.2.2.2.2.1), (v27.2.2.2.2.2.1), (v27.2.2.2.2.2.2)))))
       else
        bif decide (v2 = 45) then
         zl (f0_tx_skip c40_4) (fun v28 =>
         zbd (Q_lr_readFactor y a1 v22 v23 v24 v25 (f40_1) c40_2 c40_3 v28) (fun v29 =>
         some (.inl (v2, l4 + 1, ((v29.1)), ((v29.2.1)), (v29.2.2.1), (v29.2.2.2.1), (v29.2.2.2.2.1), (v29.2.2.2.2.2.1), (v29.2.2.2.2.2.2)))))
        else
         some (.inr (v22, v23, v24, v25, c40_2, c40_3, c40_4))))))))
     else
      zl (f0_tx_skip c40_4) (fun v30 =>
      zbd (Q_lr_readFactor y a1 b24 b25 c23_7 c23_8 (f40_1) c40_2 c40_3 v30) (fun v31 =>
      zg (g_lw_emit v2 0 ((v31.2.2.1)) ((v31.1)) ((v31.2.1)) ((v31.2.2.2.1))) (
      zl (w_lw_emit v2 0 ((v31.2.2.1)) ((v31.1)) ((v31.2.1)) ((v31.2.2.2.1))) (fun v32 =>
      zl (a0_lw_emit v2 0 ((v31.2.2.1)) ((v31.1)) ((v31.2.1)) ((v31.2.2.2.1))) (fun v33 =>
      zl (a1_lw_emit v2 0 ((v31.2.2.1)) ((v31.1)) ((v31.2.1)) ((v31.2.2.2.1))) (fun v34 =>
      zl (f0_lw_emit v2 0 ((v31.2.2.1)) ((v31.1)) ((v31.2.1)) ((v31.2.2.2.1))) (fun v35 =>
      zl (f1_lw_emit v2 0 ((v31.2.2.1)) ((v31.1)) ((v31.2.1)) ((v31.2.2.2.1))) (fun v36 =>
      some (.inl (l3, l4 + 1, v33, v34, v35, v36, (v31.2.2.2.2.1), (v31.2.2.2.2.2.1), (v31.2.2.2.2.2.2)))))))))))))
noncomputable def f_lr_readAmount_11 (Q_lr_readCondition : Int32 → (Nat → Int32) → (Nat → Int32) → (Nat → Int32) → Int32 → Int32 → Int32 → Int32 → Int32 → Int32 → Option ((Nat → Int32) × (Nat → Int32) × Int32 × Int32 × Int32 × Int32 × Int32)) (Q_lr_readTest : Int32 → (Nat → Int32) → (Nat → Int32) → (Nat → Int32) → Int32 → Int32 → Int32 → Int32 → Int32 → Int32 → Option ((Nat → Int32) × (Nat → Int32) × Int32 × Int32 × Int32 × Int32 × Int32)) (Q_lr_readAmount : Int32 → (Nat → Int32) → (Nat → Int32) → (Nat → Int32) → Int32 → Int32 → Int32 → Int32 → Int32 → Int32 → Option ((Nat → Int32) × (Nat → Int32) × Int32 × Int32 × Int32 × Int32 × Int32)) (Q_lr_readFactor : Int32 → (Nat → Int32) → (Nat → Int32) → (Nat → Int32) → Int32 → Int32 → Int32 → Int32 → Int32 → Int32 → Option ((Nat → Int32) × (Nat → Int32) × Int32 × Int32 × Int32 × Int32 × Int32)) (y : Int32) (a1 : Nat → Int32) (f40_1 : Int32) : U_lr_readAmount_11 → Option (U_lr_readAmount_11 ⊕ T_lr_readAmount) := fun s => b_lr_readAmount_11 Q_lr_readCondition Q_lr_readTest Q_lr_readAmount Q_lr_readFactor y a1 f40_1 s.1 s.2.1 s.2.2.1 s.2.2.2.1 s.2.2.2.2.1 s.2.2.2.2.2.1 s.2.2.2.2.2.2.1 s.2.2.2.2.2.2.2.1 s.2.2.2.2.2.2.2.2
noncomputable def l_lr_readAmount_11 (Q_lr_readCondition : Int32 → (Nat → Int32) → (Nat → Int32) → (Nat → Int32) → Int32 → Int32 → Int32 → Int32 → Int32 → Int32 → Option ((Nat → Int32) × (Nat → Int32) × Int32 × Int32 × Int32 × Int32 × Int32)) (Q_lr_readTest : Int32 → (Nat → Int32) → (Nat → Int32) → (Nat → Int32) → Int32 → Int32 → Int32 → Int32 → Int32 → Int32 → Option ((Nat → Int32) × (Nat → Int32) × Int32 × Int32 × Int32 × Int32 × Int32)) (Q_lr_readAmount : Int32 → (Nat → Int32) → (Nat → Int32) → (Nat → Int32) → Int32 → Int32 → Int32 → Int32 → Int32 → Int32 → Option ((Nat → Int32) × (Nat → Int32) × Int32 × Int32 × Int32 × Int32 × Int32)) (Q_lr_readFactor : Int32 → (Nat → Int32) → (Nat → Int32) → (Nat → Int32) → Int32 → Int32 → Int32 → Int32 → Int32 → Int32 → Option ((Nat → Int32) × (Nat → Int32) × Int32 × Int32 × Int32 × Int32 × Int32)) (y : Int32) (a1 : Nat → Int32) (f40_1 : Int32) (l3 : Int32) (l4 : Int32) (b24 : Nat → Int32) (b25 : Nat → Int32) (c23_7 : Int32) (c23_8 : Int32) (c40_2 : Int32) (c40_3 : Int32) (c40_4 : Int32) : Option T_lr_readAmount := zlp (f_lr_readAmount_11 Q_lr_readCondition Q_lr_readTest Q_lr_readAmount Q_lr_readFactor y a1 f40_1) (l3, l4, b24, b25, c23_7, c23_8, c40_2, c40_3, c40_4)
noncomputable def qG_lr_readAmount (Q_lr_readCondition : Int32 → (Nat → Int32) → (Nat → Int32) → (Nat → Int32) → Int32 → Int32 → Int32 → Int32 → Int32 → Int32 → Option ((Nat → Int32) × (Nat → Int32) × Int32 × Int32 × Int32 × Int32 × Int32)) (Q_lr_readTest : Int32 → (Nat → Int32) → (Nat → Int32) → (Nat → Int32) → Int32 → Int32 → Int32 → Int32 → Int32 → Int32 → Option ((Nat → Int32) × (Nat → Int32) × Int32 × Int32 × Int32 × Int32 × Int32)) (Q_lr_readAmount : Int32 → (Nat → Int32) → (Nat → Int32) → (Nat → Int32) → Int32 → Int32 → Int32 → Int32 → Int32 → Int32 → Option ((Nat → Int32) × (Nat → Int32) × Int32 × Int32 × Int32 × Int32 × Int32)) (Q_lr_readFactor : Int32 → (Nat → Int32) → (Nat → Int32) → (Nat → Int32) → Int32 → Int32 → Int32 → Int32 → Int32 → Int32 → Option ((Nat → Int32) × (Nat → Int32) × Int32 × Int32 × Int32 × Int32 × Int32)) (y : Int32) (a1 : Nat → Int32) (a24 : Nat → Int32) (a25 : Nat → Int32) (f23_7 : Int32) (f23_8 : Int32) (f40_1 : Int32) (f40_2 : Int32) (f40_3 : Int32) (f40_4 : Int32) : Option T_lr_readAmount :=
  zbd (Q_lr_readFactor y a1 a24 a25 (f23_7) (f23_8) (f40_1) (f40_2) (f40_3) (f40_4)) (fun v1 =>
  l_lr_readAmount_11 Q_lr_readCondition Q_lr_readTest Q_lr_readAmount Q_lr_readFactor y a1 f40_1 0 0 ((v1.1)) ((v1.2.1)) ((v1.2.2.1)) ((v1.2.2.2.1)) ((v1.2.2.2.2.1)) ((v1.2.2.2.2.2.1)) ((v1.2.2.2.2.2.2)))
theorem hF15_lr_readAmount (F : Nat → Nat → Int32) (w0 w1 w2 w3 w4 w5 w6 : Int32) : (zuf (zuf (zuf (zuf (zuf (zuf (zuf F 31 7 w0) 31 8 w1) 40 2 w2) 40 3 w3) 40 4 w4) 31 7 w5) 31 8 w6) = (zuf (zuf (zuf (zuf (zuf F 31 7 w5) 31 8 w6) 40 2 w2) 40 3 w3) 40 4 w4) := zufk_ix F [((31, 7), w0), ((31, 8), w1), ((40, 2), w2), ((40, 3), w3), ((40, 4), w4), ((31, 7), w5), ((31, 8), w6)] [((31, 7), some 5), ((31, 8), some 6), ((40, 2), some 2), ((40, 3), some 3), ((40, 4), some 4)] rfl
theorem hF14_lr_readAmount (F : Nat → Nat → Int32) (w0 w1 w2 w3 w4 w5 w6 w7 w8 w9 w10 w11 w12 : Int32) : (zuf (zuf (zuf (zuf (zuf (zuf (zuf (zuf (zuf (zuf (zuf (zuf (zuf F 31 7 w0) 31 8 w1) 40 2 w2) 40 3 w3) 40 4 w4) 31 7 w5) 31 8 w6) 40 4 w7) 31 7 w8) 31 8 w9) 40 2 w10) 40 3 w11) 40 4 w12) = (zuf (zuf (zuf (zuf (zuf F 31 7 w8) 31 8 w9) 40 2 w10) 40 3 w11) 40 4 w12) := zufk_ix F [((31, 7), w0), ((31, 8), w1), ((40, 2), w2), ((40, 3), w3), ((40, 4), w4), ((31, 7), w5), ((31, 8), w6), ((40, 4), w7), ((31, 7), w8), ((31, 8), w9), ((40, 2), w10), ((40, 3), w11), ((40, 4), w12)] [((31, 7), some 8), ((31, 8), some 9), ((40, 2), some 10), ((40, 3), some 11), ((40, 4), some 12)] rfl
theorem hF13_lr_readAmount (F : Nat → Nat → Int32) (w0 w1 w2 w3 w4 w5 w6 w7 w8 w9 w10 : Int32) : (zuf (zuf (zuf (zuf (zuf (zuf (zuf (zuf (zuf (zuf (zuf F 31 7 w0) 31 8 w1) 40 2 w2) 40 3 w3) 40 4 w4) 40 4 w5) 31 7 w6) 31 8 w7) 40 2 w8) 40 3 w9) 40 4 w10) = (zuf (zuf (zuf (zuf (zuf F 31 7 w6) 31 8 w7) 40 2 w8) 40 3 w9) 40 4 w10) := zufk_ix F [((31, 7), w0), ((31, 8), w1), ((40, 2), w2), ((40, 3), w3), ((40, 4), w4), ((40, 4), w5), ((31, 7), w6), ((31, 8), w7), ((40, 2), w8), ((40, 3), w9), ((40, 4), w10)] [((31, 7), some 6), ((31, 8), some 7), ((40, 2), some 8), ((40, 3), some 9), ((40, 4), some 10)] rfl
theorem hA12_lr_readAmount (F : Nat → Nat → Int32) (w0 w1 w2 w3 : Nat → Int32) : (zua (zua (zua (zua F 32 w0) 33 w1) 32 w2) 33 w3) = (zua (zua F 32 w2) 33 w3) := zuak_ix F [(32, w0), (33, w1), (32, w2), (33, w3)] [(32, some 2), (33, some 3)] rfl
theorem hF11_lr_readAmount (F : Nat → Nat → Int32) (w0 w1 w2 w3 w4 w5 w6 w7 w8 w9 w10 w11 w12 : Int32) : (zuf (zuf (zuf (zuf (zuf (zuf (zuf (zuf (zuf (zuf (zuf (zuf (zuf F 31 7 w0) 31 8 w1) 40 2 w2) 40 3 w3) 40 4 w4) 40 4 w5) 31 7 w6) 31 8 w7) 40 2 w8) 40 3 w9) 40 4 w10) 31 7 w11) 31 8 w12) = (zuf (zuf (zuf (zuf (zuf F 31 7 w11) 31 8 w12) 40 2 w8) 40 3 w9) 40 4 w10) := zufk_ix F [((31, 7), w0), ((31, 8), w1), ((40, 2), w2), ((40, 3), w3), ((40, 4), w4), ((40, 4), w5), ((31, 7), w6), ((31, 8), w7), ((40, 2), w8), ((40, 3), w9), ((40, 4), w10), ((31, 7), w11), ((31, 8), w12)] [((31, 7), some 11), ((31, 8), some 12), ((40, 2), some 8), ((40, 3), some 9), ((40, 4), some 10)] rfl
theorem hA10_lr_readAmount (F : Nat → Nat → Int32) (w0 w1 w2 w3 w4 w5 : Nat → Int32) : (zua (zua (zua (zua (zua (zua F 32 w0) 33 w1) 32 w2) 33 w3) 32 w4) 33 w5) = (zua (zua F 32 w4) 33 w5) := zuak_ix F [(32, w0), (33, w1), (32, w2), (33, w3), (32, w4), (33, w5)] [(32, some 4), (33, some 5)] rfl
theorem hF9_lr_readAmount (F : Nat → Nat → Int32) (w0 w1 w2 w3 w4 : Int32) : (zuf (zuf (zuf (zuf (zuf F 31 7 w0) 31 8 w1) 40 2 w2) 40 3 w3) 40 4 w4) = (zuf (zuf (zuf (zuf (zuf F 31 7 w0) 31 8 w1) 40 2 w2) 40 3 w3) 40 4 w4) := zufk_ix F [((31, 7), w0), ((31, 8), w1), ((40, 2), w2), ((40, 3), w3), ((40, 4), w4)] [((31, 7), some 0), ((31, 8), some 1), ((40, 2), some 2), ((40, 3), some 3), ((40, 4), some 4)] rfl
theorem hA8_lr_readAmount (F : Nat → Nat → Int32) (w0 w1 : Nat → Int32) : (zua (zua F 32 w0) 33 w1) = (zua (zua F 32 w0) 33 w1) := zuak_ix F [(32, w0), (33, w1)] [(32, some 0), (33, some 1)] rfl
theorem hF7_lr_readAmount (F : Nat → Nat → Int32) (w0 w1 w2 w3 w4 w5 w6 : Int32) : (zuf (zuf (zuf (zuf (zuf (zuf (zuf F 23 7 w0) 23 8 w1) 40 2 w2) 40 3 w3) 40 4 w4) 23 7 w5) 23 8 w6) = (zuf (zuf (zuf (zuf (zuf F 23 7 w5) 23 8 w6) 40 2 w2) 40 3 w3) 40 4 w4) := zufk_ix F [((23, 7), w0), ((23, 8), w1), ((40, 2), w2), ((40, 3), w3), ((40, 4), w4), ((23, 7), w5), ((23, 8), w6)] [((23, 7), some 5), ((23, 8), some 6), ((40, 2), some 2), ((40, 3), some 3), ((40, 4), some 4)] rfl
theorem hF6_lr_readAmount (F : Nat → Nat → Int32) (w0 w1 w2 w3 w4 w5 w6 w7 w8 w9 w10 w11 w12 : Int32) : (zuf (zuf (zuf (zuf (zuf (zuf (zuf (zuf (zuf (zuf (zuf (zuf (zuf F 23 7 w0) 23 8 w1) 40 2 w2) 40 3 w3) 40 4 w4) 23 7 w5) 23 8 w6) 40 4 w7) 23 7 w8) 23 8 w9) 40 2 w10) 40 3 w11) 40 4 w12) = (zuf (zuf (zuf (zuf (zuf F 23 7 w8) 23 8 w9) 40 2 w10) 40 3 w11) 40 4 w12) := zufk_ix F [((23, 7), w0), ((23, 8), w1), ((40, 2), w2), ((40, 3), w3), ((40, 4), w4), ((23, 7), w5), ((23, 8), w6), ((40, 4), w7), ((23, 7), w8), ((23, 8), w9), ((40, 2), w10), ((40, 3), w11), ((40, 4), w12)] [((23, 7), some 8), ((23, 8), some 9), ((40, 2), some 10), ((40, 3), some 11), ((40, 4), some 12)] rfl
theorem hF5_lr_readAmount (F : Nat → Nat → Int32) (w0 w1 w2 w3 w4 w5 w6 w7 w8 w9 w10 : Int32) : (zuf (zuf (zuf (zuf (zuf (zuf (zuf (zuf (zuf (zuf (zuf F 23 7 w0) 23 8 w1) 40 2 w2) 40 3 w3) 40 4 w4) 40 4 w5) 23 7 w6) 23 8 w7) 40 2 w8) 40 3 w9) 40 4 w10) = (zuf (zuf (zuf (zuf (zuf F 23 7 w6) 23 8 w7) 40 2 w8) 40 3 w9) 40 4 w10) := zufk_ix F [((23, 7), w0), ((23, 8), w1), ((40, 2), w2), ((40, 3), w3), ((40, 4), w4), ((40, 4), w5), ((23, 7), w6), ((23, 8), w7), ((40, 2), w8), ((40, 3), w9), ((40, 4), w10)] [((23, 7), some 6), ((23, 8), some 7), ((40, 2), some 8), ((40, 3), some 9), ((40, 4), some 10)] rfl
theorem hA4_lr_readAmount (F : Nat → Nat → Int32) (w0 w1 w2 w3 : Nat → Int32) : (zua (zua (zua (zua F 24 w0) 25 w1) 24 w2) 25 w3) = (zua (zua F 24 w2) 25 w3) := zuak_ix F [(24, w0), (25, w1), (24, w2), (25, w3)] [(24, some 2), (25, some 3)] rfl
theorem hF3_lr_readAmount (F : Nat → Nat → Int32) (w0 w1 w2 w3 w4 w5 w6 w7 w8 w9 w10 w11 w12 : Int32) : (zuf (zuf (zuf (zuf (zuf (zuf (zuf (zuf (zuf (zuf (zuf (zuf (zuf F 23 7 w0) 23 8 w1) 40 2 w2) 40 3 w3) 40 4 w4) 40 4 w5) 23 7 w6) 23 8 w7) 40 2 w8) 40 3 w9) 40 4 w10) 23 7 w11) 23 8 w12) = (zuf (zuf (zuf (zuf (zuf F 23 7 w11) 23 8 w12) 40 2 w8) 40 3 w9) 40 4 w10) := zufk_ix F [((23, 7), w0), ((23, 8), w1), ((40, 2), w2), ((40, 3), w3), ((40, 4), w4), ((40, 4), w5), ((23, 7), w6), ((23, 8), w7), ((40, 2), w8), ((40, 3), w9), ((40, 4), w10), ((23, 7), w11), ((23, 8), w12)] [((23, 7), some 11), ((23, 8), some 12), ((40, 2), some 8), ((40, 3), some 9), ((40, 4), some 10)] rfl
theorem hA2_lr_readAmount (F : Nat → Nat → Int32) (w0 w1 w2 w3 w4 w5 : Nat → Int32) : (zua (zua (zua (zua (zua (zua F 24 w0) 25 w1) 24 w2) 25 w3) 24 w4) 25 w5) = (zua (zua F 24 w4) 25 w5) := zuak_ix F [(24, w0), (25, w1), (24, w2), (25, w3), (24, w4), (25, w5)] [(24, some 4), (25, some 5)] rfl
theorem hF1_lr_readAmount (F : Nat → Nat → Int32) (w0 w1 w2 w3 w4 : Int32) : (zuf (zuf (zuf (zuf (zuf F 23 7 w0) 23 8 w1) 40 2 w2) 40 3 w3) 40 4 w4) = (zuf (zuf (zuf (zuf (zuf F 23 7 w0) 23 8 w1) 40 2 w2) 40 3 w3) 40 4 w4) := zufk_ix F [((23, 7), w0), ((23, 8), w1), ((40, 2), w2), ((40, 3), w3), ((40, 4), w4)] [((23, 7), some 0), ((23, 8), some 1), ((40, 2), some 2), ((40, 3), some 3), ((40, 4), some 4)] rfl
theorem hA0_lr_readAmount (F : Nat → Nat → Int32) (w0 w1 : Nat → Int32) : (zua (zua F 24 w0) 25 w1) = (zua (zua F 24 w0) 25 w1) := zuak_ix F [(24, w0), (25, w1)] [(24, some 0), (25, some 1)] rfl
def O_lr_readAmount_39_23 (ar fi : Nat → Nat → Int32) (m1 : Nat) (m2 : Nat) (m4 : Nat) (m5 : Nat) (t : T_lr_readAmount) : zO2 := match t with
  | (t0, t1, t2, t3, t4, t5, t6) => (none, ((zua (zua ar 24 t0) 25 t1), (zuf (zuf (zuf (zuf (zuf fi 23 7 t2) 23 8 t3) 40 2 t4) 40 3 t5) 40 4 t6), (m1, m2, 1, m4, m5)))
def M_lr_readAmount_11_39_23 (X : Nat × (Nat → Int32)) (E : zTE) (ar fi : Nat → Nat → Int32) (m1 : Nat) (m2 : Nat) (m4 : Nat) (m5 : Nat) (y : Int32) (o : zO2) (s : U_lr_readAmount_11) : Prop := match s with
  | (l3, l4, b24, b25, c23_7, c23_8, c40_2, c40_3, c40_4) => zR2 X zFT E zc_53 11 [.ref 39, .ref 23, .int y, .int l3, .int l4] [] ((zua (zua ar 24 b24) 25 b25), (zuf (zuf (zuf (zuf (zuf fi 23 7 c23_7) 23 8 c23_8) 40 2 c40_2) 40 3 c40_3) 40 4 c40_4), (m1, m2, 1, m4, m5)) o
set_option maxRecDepth 1000000 in
theorem t11_lr_readAmount_39_23 {X : Nat × (Nat → Int32)} {ar fi : Nat → Nat → Int32} {m1 m2 m4 m5 : Nat} {y : Int32} {l3 : Int32} {l4 : Int32} {b24 : Nat → Int32} {b25 : Nat → Int32} {c23_7 : Int32} {c23_8 : Int32} {c40_2 : Int32} {c40_3 : Int32} {c40_4 : Int32} {Q_lr_readFactor : Int32 → (Nat → Int32) → (Nat → Int32) → (Nat → Int32) → Int32 → Int32 → Int32 → Int32 → Int32 → Int32 → Option ((Nat → Int32) × (Nat → Int32) × Int32 × Int32 × Int32 × Int32 × Int32)} {G_tx_sign : Int32 → Int32 → Int32 → (Nat → Int32) → Bool} {W_tx_sign : Int32 → Int32 → Int32 → (Nat → Int32) → Int32} {F0_tx_skip : Int32 → Int32} {G_lw_emit : Int32 → Int32 → Int32 → (Nat → Int32) → (Nat → Int32) → Int32 → Bool} {W_lw_emit : Int32 → Int32 → Int32 → (Nat → Int32) → (Nat → Int32) → Int32 → Int32} {A0_lw_emit : Int32 → Int32 → Int32 → (Nat → Int32) → (Nat → Int32) → Int32 → Nat → Int32} {A1_lw_emit : Int32 → Int32 → Int32 → (Nat → Int32) → (Nat → Int32) → Int32 → Nat → Int32} {F0_lw_emit : Int32 → Int32 → Int32 → (Nat → Int32) → (Nat → Int32) → Int32 → Int32} {F1_lw_emit : Int32 → Int32 → Int32 → (Nat → Int32) → (Nat → Int32) → Int32 → Int32} : zseg X zFT (zEx 54 (P_lr_readFactor Q_lr_readFactor) (zEx 93 (P_tx_sign G_tx_sign W_tx_sign) (zEx 95 (P_tx_skip F0_tx_skip) (zEx 40 (P_lw_emit G_lw_emit W_lw_emit A0_lw_emit A1_lw_emit F0_lw_emit F1_lw_emit) zE0)))) zc_53 (fun p => Nat.beq p 11) 400 11 [.ref 39, .ref 23, .int y, .int l3, .int l4] [] ((zua (zua ar 24 b24) 25 b25), (zuf (zuf (zuf (zuf (zuf fi 23 7 c23_7) 23 8 c23_8) 40 2 c40_2) 40 3 c40_3) 40 4 c40_4), (m1, m2, 1, m4, m5)) = (
  bif decide (240 ≤ l4) then
   some (.inr (none, ((zua (zua ar 24 b24) 25 b25), (zuf (zuf (zuf (zuf (zuf fi 23 7 c23_7) 23 8 c23_8) 40 2 c40_2) 40 3 c40_3) 40 4 c40_4), (m1, m2, 1, m4, m5))))
  else
   zg (G_tx_sign c40_2 c40_4 (fi 40 1) (ar 1)) (
   zl (W_tx_sign c40_2 c40_4 (fi 40 1) (ar 1)) (fun v2 =>
   bif decide (v2 = 42) then
    zl (F0_tx_skip c40_4) (fun v3 =>
    zl (Q_lr_readFactor y (ar 1) b24 b25 c23_7 c23_8 (fi 40 1) c40_2 c40_3 v3) (fun v4 => zg v4.isSome (
    zg (G_lw_emit v2 0 (((zgt v4).2.2.1)) (((zgt v4).1)) (((zgt v4).2.1)) (((zgt v4).2.2.2.1))) (
    zl (W_lw_emit v2 0 (((zgt v4).2.2.1)) (((zgt v4).1)) (((zgt v4).2.1)) (((zgt v4).2.2.2.1))) (fun v5 =>
    zl (A0_lw_emit v2 0 (((zgt v4).2.2.1)) (((zgt v4).1)) (((zgt v4).2.1)) (((zgt v4).2.2.2.1))) (fun v6 =>
    zl (A1_lw_emit v2 0 (((zgt v4).2.2.1)) (((zgt v4).1)) (((zgt v4).2.1)) (((zgt v4).2.2.2.1))) (fun v7 =>
    zl (F0_lw_emit v2 0 (((zgt v4).2.2.1)) (((zgt v4).1)) (((zgt v4).2.1)) (((zgt v4).2.2.2.1))) (fun v8 =>
    zl (F1_lw_emit v2 0 (((zgt v4).2.2.1)) (((zgt v4).1)) (((zgt v4).2.1)) (((zgt v4).2.2.2.1))) (fun v9 =>
    some (.inl (11, [.ref 39, .ref 23, .int y, .int l3, .int (l4 + 1)], [], ((zua (zua (zua (zua (zua (zua ar 24 b24) 25 b25) 24 (((zgt v4).1))) 25 (((zgt v4).2.1))) 24 v6) 25 v7), (zuf (zuf (zuf (zuf (zuf (zuf (zuf (zuf (zuf (zuf (zuf (zuf (zuf fi 23 7 c23_7) 23 8 c23_8) 40 2 c40_2) 40 3 c40_3) 40 4 c40_4) 40 4 v3) 23 7 (((zgt v4).2.2.1))) 23 8 (((zgt v4).2.2.2.1))) 40 2 (((zgt v4).2.2.2.2.1))) 40 3 (((zgt v4).2.2.2.2.2.1))) 40 4 (((zgt v4).2.2.2.2.2.2))) 23 7 v8) 23 8 v9), (m1, m2, 1, m4, m5)))))))))))))
   else
    bif decide (v2 = 47) then
     zl (F0_tx_skip c40_4) (fun v10 =>
     zl (Q_lr_readFactor y (ar 1) b24 b25 c23_7 c23_8 (fi 40 1) c40_2 c40_3 v10) (fun v11 => zg v11.isSome (
     zg (G_lw_emit v2 0 (((zgt v11).2.2.1)) (((zgt v11).1)) (((zgt v11).2.1)) (((zgt v11).2.2.2.1))) (
     zl (W_lw_emit v2 0 (((zgt v11).2.2.1)) (((zgt v11).1)) (((zgt v11).2.1)) (((zgt v11).2.2.2.1))) (fun v12 =>
     zl (A0_lw_emit v2 0 (((zgt v11).2.2.1)) (((zgt v11).1)) (((zgt v11).2.1)) (((zgt v11).2.2.2.1))) (fun v13 =>
     zl (A1_lw_emit v2 0 (((zgt v11).2.2.1)) (((zgt v11).1)) (((zgt v11).2.1)) (((zgt v11).2.2.2.1))) (fun v14 =>
     zl (F0_lw_emit v2 0 (((zgt v11).2.2.1)) (((zgt v11).1)) (((zgt v11).2.1)) (((zgt v11).2.2.2.1))) (fun v15 =>
     zl (F1_lw_emit v2 0 (((zgt v11).2.2.1)) (((zgt v11).1)) (((zgt v11).2.1)) (((zgt v11).2.2.2.1))) (fun v16 =>
     some (.inl (11, [.ref 39, .ref 23, .int y, .int l3, .int (l4 + 1)], [], ((zua (zua (zua (zua (zua (zua ar 24 b24) 25 b25) 24 (((zgt v11).1))) 25 (((zgt v11).2.1))) 24 v13) 25 v14), (zuf (zuf (zuf (zuf (zuf (zuf (zuf (zuf (zuf (zuf (zuf (zuf (zuf fi 23 7 c23_7) 23 8 c23_8) 40 2 c40_2) 40 3 c40_3) 40 4 c40_4) 40 4 v10) 23 7 (((zgt v11).2.2.1))) 23 8 (((zgt v11).2.2.2.1))) 40 2 (((zgt v11).2.2.2.2.1))) 40 3 (((zgt v11).2.2.2.2.2.1))) 40 4 (((zgt v11).2.2.2.2.2.2))) 23 7 v15) 23 8 v16), (m1, m2, 1, m4, m5)))))))))))))
    else
     bif !decide (v2 = 37) then
      bif decide (l3 = 0) then
       bif decide (v2 = 43) then
        zl (F0_tx_skip c40_4) (fun v17 =>
        zl (Q_lr_readFactor y (ar 1) b24 b25 c23_7 c23_8 (fi 40 1) c40_2 c40_3 v17) (fun v18 => zg v18.isSome (
        some (.inl (11, [.ref 39, .ref 23, .int y, .int v2, .int (l4 + 1)], [], ((zua (zua (zua (zua ar 24 b24) 25 b25) 24 (((zgt v18).1))) 25 (((zgt v18).2.1))), (zuf (zuf (zuf (zuf (zuf (zuf (zuf (zuf (zuf (zuf (zuf fi 23 7 c23_7) 23 8 c23_8) 40 2 c40_2) 40 3 c40_3) 40 4 c40_4) 40 4 v17) 23 7 (((zgt v18).2.2.1))) 23 8 (((zgt v18).2.2.2.1))) 40 2 (((zgt v18).2.2.2.2.1))) 40 3 (((zgt v18).2.2.2.2.2.1))) 40 4 (((zgt v18).2.2.2.2.2.2))), (m1, m2, 1, m4, m5)))))))
       else
        bif decide (v2 = 45) then
         zl (F0_tx_skip c40_4) (fun v19 =>
         zl (Q_lr_readFactor y (ar 1) b24 b25 c23_7 c23_8 (fi 40 1) c40_2 c40_3 v19) (fun v20 => zg v20.isSome (
         some (.inl (11, [.ref 39, .ref 23, .int y, .int v2, .int (l4 + 1)], [], ((zua (zua (zua (zua ar 24 b24) 25 b25) 24 (((zgt v20).1))) 25 (((zgt v20).2.1))), (zuf (zuf (zuf (zuf (zuf (zuf (zuf (zuf (zuf (zuf (zuf fi 23 7 c23_7) 23 8 c23_8) 40 2 c40_2) 40 3 c40_3) 40 4 c40_4) 40 4 v19) 23 7 (((zgt v20).2.2.1))) 23 8 (((zgt v20).2.2.2.1))) 40 2 (((zgt v20).2.2.2.2.1))) 40 3 (((zgt v20).2.2.2.2.2.1))) 40 4 (((zgt v20).2.2.2.2.2.2))), (m1, m2, 1, m4, m5)))))))
        else
         some (.inr (none, ((zua (zua ar 24 b24) 25 b25), (zuf (zuf (zuf (zuf (zuf fi 23 7 c23_7) 23 8 c23_8) 40 2 c40_2) 40 3 c40_3) 40 4 c40_4), (m1, m2, 1, m4, m5))))
      else
       zg (G_lw_emit l3 0 c23_7 b24 b25 c23_8) (
       zl (W_lw_emit l3 0 c23_7 b24 b25 c23_8) (fun v21 =>
       zl (A0_lw_emit l3 0 c23_7 b24 b25 c23_8) (fun v22 =>
       zl (A1_lw_emit l3 0 c23_7 b24 b25 c23_8) (fun v23 =>
       zl (F0_lw_emit l3 0 c23_7 b24 b25 c23_8) (fun v24 =>
       zl (F1_lw_emit l3 0 c23_7 b24 b25 c23_8) (fun v25 =>
       bif decide (v2 = 43) then
        zl (F0_tx_skip c40_4) (fun v26 =>
        zl (Q_lr_readFactor y (ar 1) v22 v23 v24 v25 (fi 40 1) c40_2 c40_3 v26) (fun v27 => zg v27.isSome (
        some (.inl (11, [.ref 39, .ref 23, .int y, .int v2, .int (l4 + 1)], [], ((zua (zua (zua (zua (zua (zua ar 24 b24) 25 b25) 24 v22) 25 v23) 24 (((zgt v27).1))) 25 (((zgt v27).2.1))), (zuf (zuf (zuf (zuf (zuf (zuf (zuf (zuf (zuf (zuf (zuf (zuf (zuf fi 23 7 c23_7) 23 8 c23_8) 40 2 c40_2) 40 3 c40_3) 40 4 c40_4) 23 7 v24) 23 8 v25) 40 4 v26) 23 7 (((zgt v27).2.2.1))) 23 8 (((zgt v27).2.2.2.1))) 40 2 (((zgt v27).2.2.2.2.1))) 40 3 (((zgt v27).2.2.2.2.2.1))) 40 4 (((zgt v27).2.2.2.2.2.2))), (m1, m2, 1, m4, m5)))))))
       else
        bif decide (v2 = 45) then
         zl (F0_tx_skip c40_4) (fun v28 =>
         zl (Q_lr_readFactor y (ar 1) v22 v23 v24 v25 (fi 40 1) c40_2 c40_3 v28) (fun v29 => zg v29.isSome (
         some (.inl (11, [.ref 39, .ref 23, .int y, .int v2, .int (l4 + 1)], [], ((zua (zua (zua (zua (zua (zua ar 24 b24) 25 b25) 24 v22) 25 v23) 24 (((zgt v29).1))) 25 (((zgt v29).2.1))), (zuf (zuf (zuf (zuf (zuf (zuf (zuf (zuf (zuf (zuf (zuf (zuf (zuf fi 23 7 c23_7) 23 8 c23_8) 40 2 c40_2) 40 3 c40_3) 40 4 c40_4) 23 7 v24) 23 8 v25) 40 4 v28) 23 7 (((zgt v29).2.2.1))) 23 8 (((zgt v29).2.2.2.1))) 40 2 (((zgt v29).2.2.2.2.1))) 40 3 (((zgt v29).2.2.2.2.2.1))) 40 4 (((zgt v29).2.2.2.2.2.2))), (m1, m2, 1, m4, m5)))))))
        else
         some (.inr (none, ((zua (zua (zua (zua ar 24 b24) 25 b25) 24 v22) 25 v23), (zuf (zuf (zuf (zuf (zuf (zuf (zuf fi 23 7 c23_7) 23 8 c23_8) 40 2 c40_2) 40 3 c40_3) 40 4 c40_4) 23 7 v24) 23 8 v25), (m1, m2, 1, m4, m5))))))))))
     else
      zl (F0_tx_skip c40_4) (fun v30 =>
      zl (Q_lr_readFactor y (ar 1) b24 b25 c23_7 c23_8 (fi 40 1) c40_2 c40_3 v30) (fun v31 => zg v31.isSome (
      zg (G_lw_emit v2 0 (((zgt v31).2.2.1)) (((zgt v31).1)) (((zgt v31).2.1)) (((zgt v31).2.2.2.1))) (
      zl (W_lw_emit v2 0 (((zgt v31).2.2.1)) (((zgt v31).1)) (((zgt v31).2.1)) (((zgt v31).2.2.2.1))) (fun v32 =>
      zl (A0_lw_emit v2 0 (((zgt v31).2.2.1)) (((zgt v31).1)) (((zgt v31).2.1)) (((zgt v31).2.2.2.1))) (fun v33 =>
      zl (A1_lw_emit v2 0 (((zgt v31).2.2.1)) (((zgt v31).1)) (((zgt v31).2.1)) (((zgt v31).2.2.2.1))) (fun v34 =>
      zl (F0_lw_emit v2 0 (((zgt v31).2.2.1)) (((zgt v31).1)) (((zgt v31).2.1)) (((zgt v31).2.2.2.1))) (fun v35 =>
      zl (F1_lw_emit v2 0 (((zgt v31).2.2.1)) (((zgt v31).1)) (((zgt v31).2.1)) (((zgt v31).2.2.2.1))) (fun v36 =>
      some (.inl (11, [.ref 39, .ref 23, .int y, .int l3, .int (l4 + 1)], [], ((zua (zua (zua (zua (zua (zua ar 24 b24) 25 b25) 24 (((zgt v31).1))) 25 (((zgt v31).2.1))) 24 v33) 25 v34), (zuf (zuf (zuf (zuf (zuf (zuf (zuf (zuf (zuf (zuf (zuf (zuf (zuf fi 23 7 c23_7) 23 8 c23_8) 40 2 c40_2) 40 3 c40_3) 40 4 c40_4) 40 4 v30) 23 7 (((zgt v31).2.2.1))) 23 8 (((zgt v31).2.2.2.1))) 40 2 (((zgt v31).2.2.2.2.1))) 40 3 (((zgt v31).2.2.2.2.2.1))) 40 4 (((zgt v31).2.2.2.2.2.2))) 23 7 v35) 23 8 v36), (m1, m2, 1, m4, m5))))))))))))))) : Option ((Nat × List Value × List Value × zH2) ⊕ zO2)) := by with_unfolding_all rfl
set_option maxRecDepth 20000 in
theorem k_lr_readAmount_11_39_23 {X : Nat × (Nat → Int32)} {ar fi : Nat → Nat → Int32} {m1 m2 m4 m5 : Nat} {y : Int32} {Q_lr_readCondition : Int32 → (Nat → Int32) → (Nat → Int32) → (Nat → Int32) → Int32 → Int32 → Int32 → Int32 → Int32 → Int32 → Option ((Nat → Int32) × (Nat → Int32) × Int32 × Int32 × Int32 × Int32 × Int32)} {Q_lr_readTest : Int32 → (Nat → Int32) → (Nat → Int32) → (Nat → Int32) → Int32 → Int32 → Int32 → Int32 → Int32 → Int32 → Option ((Nat → Int32) × (Nat → Int32) × Int32 × Int32 × Int32 × Int32 × Int32)} {Q_lr_readAmount : Int32 → (Nat → Int32) → (Nat → Int32) → (Nat → Int32) → Int32 → Int32 → Int32 → Int32 → Int32 → Int32 → Option ((Nat → Int32) × (Nat → Int32) × Int32 × Int32 × Int32 × Int32 × Int32)} {Q_lr_readFactor : Int32 → (Nat → Int32) → (Nat → Int32) → (Nat → Int32) → Int32 → Int32 → Int32 → Int32 → Int32 → Int32 → Option ((Nat → Int32) × (Nat → Int32) × Int32 × Int32 × Int32 × Int32 × Int32)} {o : zO2} : ∀ (s : U_lr_readAmount_11) (q : U_lr_readAmount_11 ⊕ T_lr_readAmount), f_lr_readAmount_11 Q_lr_readCondition Q_lr_readTest Q_lr_readAmount Q_lr_readFactor y (ar 1) (fi 40 1) s = some q → zq (M_lr_readAmount_11_39_23 X (zEx 54 (P_lr_readFactor Q_lr_readFactor) (zEx 93 S_tx_sign (zEx 95 S_tx_skip (zEx 40 S_lw_emit zE0)))) ar fi m1 m2 m4 m5 y o) (fun t => O_lr_readAmount_39_23 ar fi m1 m2 m4 m5 t = o) q → M_lr_readAmount_11_39_23 X (zEx 54 (P_lr_readFactor Q_lr_readFactor) (zEx 93 S_tx_sign (zEx 95 S_tx_skip (zEx 40 S_lw_emit zE0)))) ar fi m1 m2 m4 m5 y o s := by
  intro s q h hq
  obtain ⟨l3, l4, b24, b25, c23_7, c23_8, c40_2, c40_3, c40_4⟩ := s
  have h : b_lr_readAmount_11 Q_lr_readCondition Q_lr_readTest Q_lr_readAmount Q_lr_readFactor y (ar 1) (fi 40 1) l3 l4 b24 b25 c23_7 c23_8 c40_2 c40_3 c40_4 = some q := h
  unfold b_lr_readAmount_11 at h
  show zR2 X zFT (zEx 54 (P_lr_readFactor Q_lr_readFactor) (zEx 93 S_tx_sign (zEx 95 S_tx_skip (zEx 40 S_lw_emit zE0)))) zc_53 11 [.ref 39, .ref 23, .int y, .int l3, .int l4] [] ((zua (zua ar 24 b24) 25 b25), (zuf (zuf (zuf (zuf (zuf fi 23 7 c23_7) 23 8 c23_8) 40 2 c40_2) 40 3 c40_3) 40 4 c40_4), (m1, m2, 1, m4, m5)) o
  refine zT_seg t11_lr_readAmount_39_23 ?_
  obtain ⟨TT, hTT⟩ : ∃ T, T = zT X zFT (zEx 54 (P_lr_readFactor Q_lr_readFactor) (zEx 93 S_tx_sign (zEx 95 S_tx_skip (zEx 40 S_lw_emit zE0)))) zc_53 o := ⟨_, rfl⟩
  rw [← hTT]
  refine zb_el h (fun hb h => zU_t hTT hb ?_) (fun hb h => zU_f hTT hb ?_)
  · rw [hTT]
    have hz := zsi h hq
    refine (zO_mk ?_ ?_).trans hz
    · first | with_reducible rfl | exact hA0_lr_readAmount _ _ _
    · first | with_reducible rfl | exact hF1_lr_readAmount _ _ _ _ _ _
  · refine zg_el h (fun hg h => zU_g hTT hg ?_)
    refine zl_el h (fun h => zU_l hTT ?_)
    refine zb_el h (fun hb h => zU_t hTT hb ?_) (fun hb h => zU_f hTT hb ?_)
    · refine zl_el h (fun h => zU_l hTT ?_)
      refine zbd_el h (fun v4 hv h => zU_c hTT hv ?_)
      refine zg_el h (fun hg h => zU_g hTT hg ?_)
      refine zl_el h (fun h => zU_l hTT ?_)
      refine zl_el h (fun h => zU_l hTT ?_)
      refine zl_el h (fun h => zU_l hTT ?_)
      refine zl_el h (fun h => zU_l hTT ?_)
      refine zl_el h (fun h => zU_l hTT ?_)
      rw [hTT]
      have hz := zsi h hq
      refine zR2_hp ?_ ?_ hz
      · first | with_reducible rfl | exact hA2_lr_readAmount _ _ _ _ _ _ _
      · first | with_reducible rfl | exact hF3_lr_readAmount _ _ _ _ _ _ _ _ _ _ _ _ _ _
    · refine zb_el h (fun hb h => zU_t hTT hb ?_) (fun hb h => zU_f hTT hb ?_)
      · refine zl_el h (fun h => zU_l hTT ?_)
        refine zbd_el h (fun v11 hv h => zU_c hTT hv ?_)
        refine zg_el h (fun hg h => zU_g hTT hg ?_)
        refine zl_el h (fun h => zU_l hTT ?_)
        refine zl_el h (fun h => zU_l hTT ?_)
        refine zl_el h (fun h => zU_l hTT ?_)
        refine zl_el h (fun h => zU_l hTT ?_)
        refine zl_el h (fun h => zU_l hTT ?_)
        rw [hTT]
        have hz := zsi h hq
        refine zR2_hp ?_ ?_ hz
        · first | with_reducible rfl | exact hA2_lr_readAmount _ _ _ _ _ _ _
        · first | with_reducible rfl | exact hF3_lr_readAmount _ _ _ _ _ _ _ _ _ _ _ _ _ _
      · refine zb_el h (fun hb h => zU_t hTT hb ?_) (fun hb h => zU_f hTT hb ?_)
        · refine zb_el h (fun hb h => zU_t hTT hb ?_) (fun hb h => zU_f hTT hb ?_)
          · refine zb_el h (fun hb h => zU_t hTT hb ?_) (fun hb h => zU_f hTT hb ?_)
            · refine zl_el h (fun h => zU_l hTT ?_)
              refine zbd_el h (fun v18 hv h => zU_c hTT hv ?_)
              rw [hTT]
              have hz := zsi h hq
              refine zR2_hp ?_ ?_ hz
              · first | with_reducible rfl | exact hA4_lr_readAmount _ _ _ _ _
              · first | with_reducible rfl | exact hF5_lr_readAmount _ _ _ _ _ _ _ _ _ _ _ _
            · refine zb_el h (fun hb h => zU_t hTT hb ?_) (fun hb h => zU_f hTT hb ?_)
              · refine zl_el h (fun h => zU_l hTT ?_)
                refine zbd_el h (fun v20 hv h => zU_c hTT hv ?_)
                rw [hTT]
                have hz := zsi h hq
                refine zR2_hp ?_ ?_ hz
                · first | with_reducible rfl | exact hA4_lr_readAmount _ _ _ _ _
                · first | with_reducible rfl | exact hF5_lr_readAmount _ _ _ _ _ _ _ _ _ _ _ _
              · rw [hTT]
                have hz := zsi h hq
                refine (zO_mk ?_ ?_).trans hz
                · first | with_reducible rfl | exact hA0_lr_readAmount _ _ _
                · first | with_reducible rfl | exact hF1_lr_readAmount _ _ _ _ _ _
          · refine zg_el h (fun hg h => zU_g hTT hg ?_)
            refine zl_el h (fun h => zU_l hTT ?_)
            refine zl_el h (fun h => zU_l hTT ?_)
            refine zl_el h (fun h => zU_l hTT ?_)
            refine zl_el h (fun h => zU_l hTT ?_)
            refine zl_el h (fun h => zU_l hTT ?_)
            refine zb_el h (fun hb h => zU_t hTT hb ?_) (fun hb h => zU_f hTT hb ?_)
            · refine zl_el h (fun h => zU_l hTT ?_)
              refine zbd_el h (fun v27 hv h => zU_c hTT hv ?_)
              rw [hTT]
              have hz := zsi h hq
              refine zR2_hp ?_ ?_ hz
              · first | with_reducible rfl | exact hA2_lr_readAmount _ _ _ _ _ _ _
              · first | with_reducible rfl | exact hF6_lr_readAmount _ _ _ _ _ _ _ _ _ _ _ _ _ _
            · refine zb_el h (fun hb h => zU_t hTT hb ?_) (fun hb h => zU_f hTT hb ?_)
              · refine zl_el h (fun h => zU_l hTT ?_)
                refine zbd_el h (fun v29 hv h => zU_c hTT hv ?_)
                rw [hTT]
                have hz := zsi h hq
                refine zR2_hp ?_ ?_ hz
                · first | with_reducible rfl | exact hA2_lr_readAmount _ _ _ _ _ _ _
                · first | with_reducible rfl | exact hF6_lr_readAmount _ _ _ _ _ _ _ _ _ _ _ _ _ _
              · rw [hTT]
                have hz := zsi h hq
                refine (zO_mk ?_ ?_).trans hz
                · first | with_reducible rfl | exact hA4_lr_readAmount _ _ _ _ _
                · first | with_reducible rfl | exact hF7_lr_readAmount _ _ _ _ _ _ _ _
        · refine zl_el h (fun h => zU_l hTT ?_)
          refine zbd_el h (fun v31 hv h => zU_c hTT hv ?_)
          refine zg_el h (fun hg h => zU_g hTT hg ?_)
          refine zl_el h (fun h => zU_l hTT ?_)
          refine zl_el h (fun h => zU_l hTT ?_)
          refine zl_el h (fun h => zU_l hTT ?_)
          refine zl_el h (fun h => zU_l hTT ?_)
          refine zl_el h (fun h => zU_l hTT ?_)
          rw [hTT]
          have hz := zsi h hq
          refine zR2_hp ?_ ?_ hz
          · first | with_reducible rfl | exact hA2_lr_readAmount _ _ _ _ _ _ _
          · first | with_reducible rfl | exact hF3_lr_readAmount _ _ _ _ _ _ _ _ _ _ _ _ _ _
set_option maxRecDepth 1000000 in
theorem t_lr_readAmount_39_23 {X : Nat × (Nat → Int32)} {ar fi : Nat → Nat → Int32} {m1 m2 m4 m5 : Nat} {y : Int32} {Q_lr_readFactor : Int32 → (Nat → Int32) → (Nat → Int32) → (Nat → Int32) → Int32 → Int32 → Int32 → Int32 → Int32 → Int32 → Option ((Nat → Int32) × (Nat → Int32) × Int32 × Int32 × Int32 × Int32 × Int32)} {G_tx_sign : Int32 → Int32 → Int32 → (Nat → Int32) → Bool} {W_tx_sign : Int32 → Int32 → Int32 → (Nat → Int32) → Int32} {F0_tx_skip : Int32 → Int32} {G_lw_emit : Int32 → Int32 → Int32 → (Nat → Int32) → (Nat → Int32) → Int32 → Bool} {W_lw_emit : Int32 → Int32 → Int32 → (Nat → Int32) → (Nat → Int32) → Int32 → Int32} {A0_lw_emit : Int32 → Int32 → Int32 → (Nat → Int32) → (Nat → Int32) → Int32 → Nat → Int32} {A1_lw_emit : Int32 → Int32 → Int32 → (Nat → Int32) → (Nat → Int32) → Int32 → Nat → Int32} {F0_lw_emit : Int32 → Int32 → Int32 → (Nat → Int32) → (Nat → Int32) → Int32 → Int32} {F1_lw_emit : Int32 → Int32 → Int32 → (Nat → Int32) → (Nat → Int32) → Int32 → Int32} : zseg X zFT (zEx 54 (P_lr_readFactor Q_lr_readFactor) (zEx 93 (P_tx_sign G_tx_sign W_tx_sign) (zEx 95 (P_tx_skip F0_tx_skip) (zEx 40 (P_lw_emit G_lw_emit W_lw_emit A0_lw_emit A1_lw_emit F0_lw_emit F1_lw_emit) zE0)))) zc_53 (fun p => Nat.beq p 11) 400 0 [.ref 39, .ref 23, .int y] [] (ar, fi, (m1, m2, 1, m4, m5)) = (
  zl (Q_lr_readFactor y (ar 1) (ar 24) (ar 25) (fi 23 7) (fi 23 8) (fi 40 1) (fi 40 2) (fi 40 3) (fi 40 4)) (fun v1 => zg v1.isSome (
  some (.inl (11, [.ref 39, .ref 23, .int y, .int 0, .int 0], [], ((zua (zua ar 24 (((zgt v1).1))) 25 (((zgt v1).2.1))), (zuf (zuf (zuf (zuf (zuf fi 23 7 (((zgt v1).2.2.1))) 23 8 (((zgt v1).2.2.2.1))) 40 2 (((zgt v1).2.2.2.2.1))) 40 3 (((zgt v1).2.2.2.2.2.1))) 40 4 (((zgt v1).2.2.2.2.2.2))), (m1, m2, 1, m4, m5)))))) : Option ((Nat × List Value × List Value × zH2) ⊕ zO2)) := by with_unfolding_all rfl
set_option maxRecDepth 20000 in
theorem e_lr_readAmount_39_23 {X : Nat × (Nat → Int32)} {ar fi : Nat → Nat → Int32} {m1 m2 m4 m5 : Nat} {y : Int32} {Q_lr_readCondition : Int32 → (Nat → Int32) → (Nat → Int32) → (Nat → Int32) → Int32 → Int32 → Int32 → Int32 → Int32 → Int32 → Option ((Nat → Int32) × (Nat → Int32) × Int32 × Int32 × Int32 × Int32 × Int32)} {Q_lr_readTest : Int32 → (Nat → Int32) → (Nat → Int32) → (Nat → Int32) → Int32 → Int32 → Int32 → Int32 → Int32 → Int32 → Option ((Nat → Int32) × (Nat → Int32) × Int32 × Int32 × Int32 × Int32 × Int32)} {Q_lr_readAmount : Int32 → (Nat → Int32) → (Nat → Int32) → (Nat → Int32) → Int32 → Int32 → Int32 → Int32 → Int32 → Int32 → Option ((Nat → Int32) × (Nat → Int32) × Int32 × Int32 × Int32 × Int32 × Int32)} {Q_lr_readFactor : Int32 → (Nat → Int32) → (Nat → Int32) → (Nat → Int32) → Int32 → Int32 → Int32 → Int32 → Int32 → Int32 → Option ((Nat → Int32) × (Nat → Int32) × Int32 × Int32 × Int32 × Int32 × Int32)} {o : zO2} : ∀ (q : T_lr_readAmount), qG_lr_readAmount Q_lr_readCondition Q_lr_readTest Q_lr_readAmount Q_lr_readFactor y (ar 1) (ar 24) (ar 25) (fi 23 7) (fi 23 8) (fi 40 1) (fi 40 2) (fi 40 3) (fi 40 4) = some q → (fun t => O_lr_readAmount_39_23 ar fi m1 m2 m4 m5 t = o) q → zR2 X zFT (zEx 54 (P_lr_readFactor Q_lr_readFactor) (zEx 93 S_tx_sign (zEx 95 S_tx_skip (zEx 40 S_lw_emit zE0)))) zc_53 0 [.ref 39, .ref 23, .int y] [] (ar, fi, (m1, m2, 1, m4, m5)) o := by
  intro q h hq
  unfold qG_lr_readAmount at h
  refine zT_seg t_lr_readAmount_39_23 ?_
  obtain ⟨TT, hTT⟩ : ∃ T, T = zT X zFT (zEx 54 (P_lr_readFactor Q_lr_readFactor) (zEx 93 S_tx_sign (zEx 95 S_tx_skip (zEx 40 S_lw_emit zE0)))) zc_53 o := ⟨_, rfl⟩
  rw [← hTT]
  refine zbd_el h (fun v1 hv h => zU_c hTT hv ?_)
  rw [hTT]
  refine zR2_hp ?_ ?_ (zlp_K k_lr_readAmount_11_39_23 h hq)
  · first | with_reducible rfl | exact hA0_lr_readAmount _ _ _
  · first | with_reducible rfl | exact hF1_lr_readAmount _ _ _ _ _ _
def O_lr_readAmount_39_31 (ar fi : Nat → Nat → Int32) (m1 : Nat) (m2 : Nat) (m4 : Nat) (m5 : Nat) (t : T_lr_readAmount) : zO2 := match t with
  | (t0, t1, t2, t3, t4, t5, t6) => (none, ((zua (zua ar 32 t0) 33 t1), (zuf (zuf (zuf (zuf (zuf fi 31 7 t2) 31 8 t3) 40 2 t4) 40 3 t5) 40 4 t6), (m1, m2, 1, m4, m5)))
def M_lr_readAmount_11_39_31 (X : Nat × (Nat → Int32)) (E : zTE) (ar fi : Nat → Nat → Int32) (m1 : Nat) (m2 : Nat) (m4 : Nat) (m5 : Nat) (y : Int32) (o : zO2) (s : U_lr_readAmount_11) : Prop := match s with
  | (l3, l4, b32, b33, c31_7, c31_8, c40_2, c40_3, c40_4) => zR2 X zFT E zc_53 11 [.ref 39, .ref 31, .int y, .int l3, .int l4] [] ((zua (zua ar 32 b32) 33 b33), (zuf (zuf (zuf (zuf (zuf fi 31 7 c31_7) 31 8 c31_8) 40 2 c40_2) 40 3 c40_3) 40 4 c40_4), (m1, m2, 1, m4, m5)) o
set_option maxRecDepth 1000000 in
theorem t11_lr_readAmount_39_31 {X : Nat × (Nat → Int32)} {ar fi : Nat → Nat → Int32} {m1 m2 m4 m5 : Nat} {y : Int32} {l3 : Int32} {l4 : Int32} {b32 : Nat → Int32} {b33 : Nat → Int32} {c31_7 : Int32} {c31_8 : Int32} {c40_2 : Int32} {c40_3 : Int32} {c40_4 : Int32} {Q_lr_readFactor : Int32 → (Nat → Int32) → (Nat → Int32) → (Nat → Int32) → Int32 → Int32 → Int32 → Int32 → Int32 → Int32 → Option ((Nat → Int32) × (Nat → Int32) × Int32 × Int32 × Int32 × Int32 × Int32)} {G_tx_sign : Int32 → Int32 → Int32 → (Nat → Int32) → Bool} {W_tx_sign : Int32 → Int32 → Int32 → (Nat → Int32) → Int32} {F0_tx_skip : Int32 → Int32} {G_lw_emit : Int32 → Int32 → Int32 → (Nat → Int32) → (Nat → Int32) → Int32 → Bool} {W_lw_emit : Int32 → Int32 → Int32 → (Nat → Int32) → (Nat → Int32) → Int32 → Int32} {A0_lw_emit : Int32 → Int32 → Int32 → (Nat → Int32) → (Nat → Int32) → Int32 → Nat → Int32} {A1_lw_emit : Int32 → Int32 → Int32 → (Nat → Int32) → (Nat → Int32) → Int32 → Nat → Int32} {F0_lw_emit : Int32 → Int32 → Int32 → (Nat → Int32) → (Nat → Int32) → Int32 → Int32} {F1_lw_emit : Int32 → Int32 → Int32 → (Nat → Int32) → (Nat → Int32) → Int32 → Int32} : zseg X zFT (zEx 54 (P_lr_readFactor Q_lr_readFactor) (zEx 93 (P_tx_sign G_tx_sign W_tx_sign) (zEx 95 (P_tx_skip F0_tx_skip) (zEx 40 (P_lw_emit G_lw_emit W_lw_emit A0_lw_emit A1_lw_emit F0_lw_emit F1_lw_emit) zE0)))) zc_53 (fun p => Nat.beq p 11) 400 11 [.ref 39, .ref 31, .int y, .int l3, .int l4] [] ((zua (zua ar 32 b32) 33 b33), (zuf (zuf (zuf (zuf (zuf fi 31 7 c31_7) 31 8 c31_8) 40 2 c40_2) 40 3 c40_3) 40 4 c40_4), (m1, m2, 1, m4, m5)) = (
  bif decide (240 ≤ l4) then
   some (.inr (none, ((zua (zua ar 32 b32) 33 b33), (zuf (zuf (zuf (zuf (zuf fi 31 7 c31_7) 31 8 c31_8) 40 2 c40_2) 40 3 c40_3) 40 4 c40_4), (m1, m2, 1, m4, m5))))
  else
   zg (G_tx_sign c40_2 c40_4 (fi 40 1) (ar 1)) (
   zl (W_tx_sign c40_2 c40_4 (fi 40 1) (ar 1)) (fun v2 =>
   bif decide (v2 = 42) then
    zl (F0_tx_skip c40_4) (fun v3 =>
    zl (Q_lr_readFactor y (ar 1) b32 b33 c31_7 c31_8 (fi 40 1) c40_2 c40_3 v3) (fun v4 => zg v4.isSome (
    zg (G_lw_emit v2 0 (((zgt v4).2.2.1)) (((zgt v4).1)) (((zgt v4).2.1)) (((zgt v4).2.2.2.1))) (
    zl (W_lw_emit v2 0 (((zgt v4).2.2.1)) (((zgt v4).1)) (((zgt v4).2.1)) (((zgt v4).2.2.2.1))) (fun v5 =>
    zl (A0_lw_emit v2 0 (((zgt v4).2.2.1)) (((zgt v4).1)) (((zgt v4).2.1)) (((zgt v4).2.2.2.1))) (fun v6 =>
    zl (A1_lw_emit v2 0 (((zgt v4).2.2.1)) (((zgt v4).1)) (((zgt v4).2.1)) (((zgt v4).2.2.2.1))) (fun v7 =>
    zl (F0_lw_emit v2 0 (((zgt v4).2.2.1)) (((zgt v4).1)) (((zgt v4).2.1)) (((zgt v4).2.2.2.1))) (fun v8 =>
    zl (F1_lw_emit v2 0 (((zgt v4).2.2.1)) (((zgt v4).1)) (((zgt v4).2.1)) (((zgt v4).2.2.2.1))) (fun v9 =>
    some (.inl (11, [.ref 39, .ref 31, .int y, .int l3, .int (l4 + 1)], [], ((zua (zua (zua (zua (zua (zua ar 32 b32) 33 b33) 32 (((zgt v4).1))) 33 (((zgt v4).2.1))) 32 v6) 33 v7), (zuf (zuf (zuf (zuf (zuf (zuf (zuf (zuf (zuf (zuf (zuf (zuf (zuf fi 31 7 c31_7) 31 8 c31_8) 40 2 c40_2) 40 3 c40_3) 40 4 c40_4) 40 4 v3) 31 7 (((zgt v4).2.2.1))) 31 8 (((zgt v4).2.2.2.1))) 40 2 (((zgt v4).2.2.2.2.1))) 40 3 (((zgt v4).2.2.2.2.2.1))) 40 4 (((zgt v4).2.2.2.2.2.2))) 31 7 v8) 31 8 v9), (m1, m2, 1, m4, m5)))))))))))))
   else
    bif decide (v2 = 47) then
     zl (F0_tx_skip c40_4) (fun v10 =>
     zl (Q_lr_readFactor y (ar 1) b32 b33 c31_7 c31_8 (fi 40 1) c40_2 c40_3 v10) (fun v11 => zg v11.isSome (
     zg (G_lw_emit v2 0 (((zgt v11).2.2.1)) (((zgt v11).1)) (((zgt v11).2.1)) (((zgt v11).2.2.2.1))) (
     zl (W_lw_emit v2 0 (((zgt v11).2.2.1)) (((zgt v11).1)) (((zgt v11).2.1)) (((zgt v11).2.2.2.1))) (fun v12 =>
     zl (A0_lw_emit v2 0 (((zgt v11).2.2.1)) (((zgt v11).1)) (((zgt v11).2.1)) (((zgt v11).2.2.2.1))) (fun v13 =>
     zl (A1_lw_emit v2 0 (((zgt v11).2.2.1)) (((zgt v11).1)) (((zgt v11).2.1)) (((zgt v11).2.2.2.1))) (fun v14 =>
     zl (F0_lw_emit v2 0 (((zgt v11).2.2.1)) (((zgt v11).1)) (((zgt v11).2.1)) (((zgt v11).2.2.2.1))) (fun v15 =>
     zl (F1_lw_emit v2 0 (((zgt v11).2.2.1)) (((zgt v11).1)) (((zgt v11).2.1)) (((zgt v11).2.2.2.1))) (fun v16 =>
     some (.inl (11, [.ref 39, .ref 31, .int y, .int l3, .int (l4 + 1)], [], ((zua (zua (zua (zua (zua (zua ar 32 b32) 33 b33) 32 (((zgt v11).1))) 33 (((zgt v11).2.1))) 32 v13) 33 v14), (zuf (zuf (zuf (zuf (zuf (zuf (zuf (zuf (zuf (zuf (zuf (zuf (zuf fi 31 7 c31_7) 31 8 c31_8) 40 2 c40_2) 40 3 c40_3) 40 4 c40_4) 40 4 v10) 31 7 (((zgt v11).2.2.1))) 31 8 (((zgt v11).2.2.2.1))) 40 2 (((zgt v11).2.2.2.2.1))) 40 3 (((zgt v11).2.2.2.2.2.1))) 40 4 (((zgt v11).2.2.2.2.2.2))) 31 7 v15) 31 8 v16), (m1, m2, 1, m4, m5)))))))))))))
    else
     bif !decide (v2 = 37) then
      bif decide (l3 = 0) then
       bif decide (v2 = 43) then
        zl (F0_tx_skip c40_4) (fun v17 =>
        zl (Q_lr_readFactor y (ar 1) b32 b33 c31_7 c31_8 (fi 40 1) c40_2 c40_3 v17) (fun v18 => zg v18.isSome (
        some (.inl (11, [.ref 39, .ref 31, .int y, .int v2, .int (l4 + 1)], [], ((zua (zua (zua (zua ar 32 b32) 33 b33) 32 (((zgt v18).1))) 33 (((zgt v18).2.1))), (zuf (zuf (zuf (zuf (zuf (zuf (zuf (zuf (zuf (zuf (zuf fi 31 7 c31_7) 31 8 c31_8) 40 2 c40_2) 40 3 c40_3) 40 4 c40_4) 40 4 v17) 31 7 (((zgt v18).2.2.1))) 31 8 (((zgt v18).2.2.2.1))) 40 2 (((zgt v18).2.2.2.2.1))) 40 3 (((zgt v18).2.2.2.2.2.1))) 40 4 (((zgt v18).2.2.2.2.2.2))), (m1, m2, 1, m4, m5)))))))
       else
        bif decide (v2 = 45) then
         zl (F0_tx_skip c40_4) (fun v19 =>
         zl (Q_lr_readFactor y (ar 1) b32 b33 c31_7 c31_8 (fi 40 1) c40_2 c40_3 v19) (fun v20 => zg v20.isSome (
         some (.inl (11, [.ref 39, .ref 31, .int y, .int v2, .int (l4 + 1)], [], ((zua (zua (zua (zua ar 32 b32) 33 b33) 32 (((zgt v20).1))) 33 (((zgt v20).2.1))), (zuf (zuf (zuf (zuf (zuf (zuf (zuf (zuf (zuf (zuf (zuf fi 31 7 c31_7) 31 8 c31_8) 40 2 c40_2) 40 3 c40_3) 40 4 c40_4) 40 4 v19) 31 7 (((zgt v20).2.2.1))) 31 8 (((zgt v20).2.2.2.1))) 40 2 (((zgt v20).2.2.2.2.1))) 40 3 (((zgt v20).2.2.2.2.2.1))) 40 4 (((zgt v20).2.2.2.2.2.2))), (m1, m2, 1, m4, m5)))))))
        else
         some (.inr (none, ((zua (zua ar 32 b32) 33 b33), (zuf (zuf (zuf (zuf (zuf fi 31 7 c31_7) 31 8 c31_8) 40 2 c40_2) 40 3 c40_3) 40 4 c40_4), (m1, m2, 1, m4, m5))))
      else
       zg (G_lw_emit l3 0 c31_7 b32 b33 c31_8) (
       zl (W_lw_emit l3 0 c31_7 b32 b33 c31_8) (fun v21 =>
       zl (A0_lw_emit l3 0 c31_7 b32 b33 c31_8) (fun v22 =>
       zl (A1_lw_emit l3 0 c31_7 b32 b33 c31_8) (fun v23 =>
       zl (F0_lw_emit l3 0 c31_7 b32 b33 c31_8) (fun v24 =>
       zl (F1_lw_emit l3 0 c31_7 b32 b33 c31_8) (fun v25 =>
       bif decide (v2 = 43) then
        zl (F0_tx_skip c40_4) (fun v26 =>
        zl (Q_lr_readFactor y (ar 1) v22 v23 v24 v25 (fi 40 1) c40_2 c40_3 v26) (fun v27 => zg v27.isSome (
        some (.inl (11, [.ref 39, .ref 31, .int y, .int v2, .int (l4 + 1)], [], ((zua (zua (zua (zua (zua (zua ar 32 b32) 33 b33) 32 v22) 33 v23) 32 (((zgt v27).1))) 33 (((zgt v27).2.1))), (zuf (zuf (zuf (zuf (zuf (zuf (zuf (zuf (zuf (zuf (zuf (zuf (zuf fi 31 7 c31_7) 31 8 c31_8) 40 2 c40_2) 40 3 c40_3) 40 4 c40_4) 31 7 v24) 31 8 v25) 40 4 v26) 31 7 (((zgt v27).2.2.1))) 31 8 (((zgt v27).2.2.2.1))) 40 2 (((zgt v27).2.2.2.2.1))) 40 3 (((zgt v27).2.2.2.2.2.1))) 40 4 (((zgt v27).2.2.2.2.2.2))), (m1, m2, 1, m4, m5)))))))
       else
        bif decide (v2 = 45) then
         zl (F0_tx_skip c40_4) (fun v28 =>
         zl (Q_lr_readFactor y (ar 1) v22 v23 v24 v25 (fi 40 1) c40_2 c40_3 v28) (fun v29 => zg v29.isSome (
         some (.inl (11, [.ref 39, .ref 31, .int y, .int v2, .int (l4 + 1)], [], ((zua (zua (zua (zua (zua (zua ar 32 b32) 33 b33) 32 v22) 33 v23) 32 (((zgt v29).1))) 33 (((zgt v29).2.1))), (zuf (zuf (zuf (zuf (zuf (zuf (zuf (zuf (zuf (zuf (zuf (zuf (zuf fi 31 7 c31_7) 31 8 c31_8) 40 2 c40_2) 40 3 c40_3) 40 4 c40_4) 31 7 v24) 31 8 v25) 40 4 v28) 31 7 (((zgt v29).2.2.1))) 31 8 (((zgt v29).2.2.2.1))) 40 2 (((zgt v29).2.2.2.2.1))) 40 3 (((zgt v29).2.2.2.2.2.1))) 40 4 (((zgt v29).2.2.2.2.2.2))), (m1, m2, 1, m4, m5)))))))
        else
         some (.inr (none, ((zua (zua (zua (zua ar 32 b32) 33 b33) 32 v22) 33 v23), (zuf (zuf (zuf (zuf (zuf (zuf (zuf fi 31 7 c31_7) 31 8 c31_8) 40 2 c40_2) 40 3 c40_3) 40 4 c40_4) 31 7 v24) 31 8 v25), (m1, m2, 1, m4, m5))))))))))
     else
      zl (F0_tx_skip c40_4) (fun v30 =>
      zl (Q_lr_readFactor y (ar 1) b32 b33 c31_7 c31_8 (fi 40 1) c40_2 c40_3 v30) (fun v31 => zg v31.isSome (
      zg (G_lw_emit v2 0 (((zgt v31).2.2.1)) (((zgt v31).1)) (((zgt v31).2.1)) (((zgt v31).2.2.2.1))) (
      zl (W_lw_emit v2 0 (((zgt v31).2.2.1)) (((zgt v31).1)) (((zgt v31).2.1)) (((zgt v31).2.2.2.1))) (fun v32 =>
      zl (A0_lw_emit v2 0 (((zgt v31).2.2.1)) (((zgt v31).1)) (((zgt v31).2.1)) (((zgt v31).2.2.2.1))) (fun v33 =>
      zl (A1_lw_emit v2 0 (((zgt v31).2.2.1)) (((zgt v31).1)) (((zgt v31).2.1)) (((zgt v31).2.2.2.1))) (fun v34 =>
      zl (F0_lw_emit v2 0 (((zgt v31).2.2.1)) (((zgt v31).1)) (((zgt v31).2.1)) (((zgt v31).2.2.2.1))) (fun v35 =>
      zl (F1_lw_emit v2 0 (((zgt v31).2.2.1)) (((zgt v31).1)) (((zgt v31).2.1)) (((zgt v31).2.2.2.1))) (fun v36 =>
      some (.inl (11, [.ref 39, .ref 31, .int y, .int l3, .int (l4 + 1)], [], ((zua (zua (zua (zua (zua (zua ar 32 b32) 33 b33) 32 (((zgt v31).1))) 33 (((zgt v31).2.1))) 32 v33) 33 v34), (zuf (zuf (zuf (zuf (zuf (zuf (zuf (zuf (zuf (zuf (zuf (zuf (zuf fi 31 7 c31_7) 31 8 c31_8) 40 2 c40_2) 40 3 c40_3) 40 4 c40_4) 40 4 v30) 31 7 (((zgt v31).2.2.1))) 31 8 (((zgt v31).2.2.2.1))) 40 2 (((zgt v31).2.2.2.2.1))) 40 3 (((zgt v31).2.2.2.2.2.1))) 40 4 (((zgt v31).2.2.2.2.2.2))) 31 7 v35) 31 8 v36), (m1, m2, 1, m4, m5))))))))))))))) : Option ((Nat × List Value × List Value × zH2) ⊕ zO2)) := by with_unfolding_all rfl
set_option maxRecDepth 20000 in
theorem k_lr_readAmount_11_39_31 {X : Nat × (Nat → Int32)} {ar fi : Nat → Nat → Int32} {m1 m2 m4 m5 : Nat} {y : Int32} {Q_lr_readCondition : Int32 → (Nat → Int32) → (Nat → Int32) → (Nat → Int32) → Int32 → Int32 → Int32 → Int32 → Int32 → Int32 → Option ((Nat → Int32) × (Nat → Int32) × Int32 × Int32 × Int32 × Int32 × Int32)} {Q_lr_readTest : Int32 → (Nat → Int32) → (Nat → Int32) → (Nat → Int32) → Int32 → Int32 → Int32 → Int32 → Int32 → Int32 → Option ((Nat → Int32) × (Nat → Int32) × Int32 × Int32 × Int32 × Int32 × Int32)} {Q_lr_readAmount : Int32 → (Nat → Int32) → (Nat → Int32) → (Nat → Int32) → Int32 → Int32 → Int32 → Int32 → Int32 → Int32 → Option ((Nat → Int32) × (Nat → Int32) × Int32 × Int32 × Int32 × Int32 × Int32)} {Q_lr_readFactor : Int32 → (Nat → Int32) → (Nat → Int32) → (Nat → Int32) → Int32 → Int32 → Int32 → Int32 → Int32 → Int32 → Option ((Nat → Int32) × (Nat → Int32) × Int32 × Int32 × Int32 × Int32 × Int32)} {o : zO2} : ∀ (s : U_lr_readAmount_11) (q : U_lr_readAmount_11 ⊕ T_lr_readAmount), f_lr_readAmount_11 Q_lr_readCondition Q_lr_readTest Q_lr_readAmount Q_lr_readFactor y (ar 1) (fi 40 1) s = some q → zq (M_lr_readAmount_11_39_31 X (zEx 54 (P_lr_readFactor Q_lr_readFactor) (zEx 93 S_tx_sign (zEx 95 S_tx_skip (zEx 40 S_lw_emit zE0)))) ar fi m1 m2 m4 m5 y o) (fun t => O_lr_readAmount_39_31 ar fi m1 m2 m4 m5 t = o) q → M_lr_readAmount_11_39_31 X (zEx 54 (P_lr_readFactor Q_lr_readFactor) (zEx 93 S_tx_sign (zEx 95 S_tx_skip (zEx 40 S_lw_emit zE0)))) ar fi m1 m2 m4 m5 y o s := by
  intro s q h hq
  obtain ⟨l3, l4, b32, b33, c31_7, c31_8, c40_2, c40_3, c40_4⟩ := s
  have h : b_lr_readAmount_11 Q_lr_readCondition Q_lr_readTest Q_lr_readAmount Q_lr_readFactor y (ar 1) (fi 40 1) l3 l4 b32 b33 c31_7 c31_8 c40_2 c40_3 c40_4 = some q := h
  unfold b_lr_readAmount_11 at h
  show zR2 X zFT (zEx 54 (P_lr_readFactor Q_lr_readFactor) (zEx 93 S_tx_sign (zEx 95 S_tx_skip (zEx 40 S_lw_emit zE0)))) zc_53 11 [.ref 39, .ref 31, .int y, .int l3, .int l4] [] ((zua (zua ar 32 b32) 33 b33), (zuf (zuf (zuf (zuf (zuf fi 31 7 c31_7) 31 8 c31_8) 40 2 c40_2) 40 3 c40_3) 40 4 c40_4), (m1, m2, 1, m4, m5)) o
  refine zT_seg t11_lr_readAmount_39_31 ?_
  obtain ⟨TT, hTT⟩ : ∃ T, T = zT X zFT (zEx 54 (P_lr_readFactor Q_lr_readFactor) (zEx 93 S_tx_sign (zEx 95 S_tx_skip (zEx 40 S_lw_emit zE0)))) zc_53 o := ⟨_, rfl⟩
  rw [← hTT]
  refine zb_el h (fun hb h => zU_t hTT hb ?_) (fun hb h => zU_f hTT hb ?_)
  · rw [hTT]
    have hz := zsi h hq
    refine (zO_mk ?_ ?_).trans hz
    · first | with_reducible rfl | exact hA8_lr_readAmount _ _ _
    · first | with_reducible rfl | exact hF9_lr_readAmount _ _ _ _ _ _
  · refine zg_el h (fun hg h => zU_g hTT hg ?_)
    refine zl_el h (fun h => zU_l hTT ?_)
    refine zb_el h (fun hb h => zU_t hTT hb ?_) (fun hb h => zU_f hTT hb ?_)
    · refine zl_el h (fun h => zU_l hTT ?_)
      refine zbd_el h (fun v4 hv h => zU_c hTT hv ?_)
      refine zg_el h (fun hg h => zU_g hTT hg ?_)
      refine zl_el h (fun h => zU_l hTT ?_)
      refine zl_el h (fun h => zU_l hTT ?_)
      refine zl_el h (fun h => zU_l hTT ?_)
      refine zl_el h (fun h => zU_l hTT ?_)
      refine zl_el h (fun h => zU_l hTT ?_)
      rw [hTT]
      have hz := zsi h hq
      refine zR2_hp ?_ ?_ hz
      · first | with_reducible rfl | exact hA10_lr_readAmount _ _ _ _ _ _ _
      · first | with_reducible rfl | exact hF11_lr_readAmount _ _ _ _ _ _ _ _ _ _ _ _ _ _
    · refine zb_el h (fun hb h => zU_t hTT hb ?_) (fun hb h => zU_f hTT hb ?_)
      · refine zl_el h (fun h => zU_l hTT ?_)
        refine zbd_el h (fun v11 hv h => zU_c hTT hv ?_)
        refine zg_el h (fun hg h => zU_g hTT hg ?_)
        refine zl_el h (fun h => zU_l hTT ?_)
        refine zl_el h (fun h => zU_l hTT ?_)
        refine zl_el h (fun h => zU_l hTT ?_)
        refine zl_el h (fun h => zU_l hTT ?_)
        refine zl_el h (fun h => zU_l hTT ?_)
        rw [hTT]
        have hz := zsi h hq
        refine zR2_hp ?_ ?_ hz
        · first | with_reducible rfl | exact hA10_lr_readAmount _ _ _ _ _ _ _
        · first | with_reducible rfl | exact hF11_lr_readAmount _ _ _ _ _ _ _ _ _ _ _ _ _ _
      · refine zb_el h (fun hb h => zU_t hTT hb ?_) (fun hb h => zU_f hTT hb ?_)
        · refine zb_el h (fun hb h => zU_t hTT hb ?_) (fun hb h => zU_f hTT hb ?_)
          · refine zb_el h (fun hb h => zU_t hTT hb ?_) (fun hb h => zU_f hTT hb ?_)
            · refine zl_el h (fun h => zU_l hTT ?_)
              refine zbd_el h (fun v18 hv h => zU_c hTT hv ?_)
              rw [hTT]
              have hz := zsi h hq
              refine zR2_hp ?_ ?_ hz
              · first | with_reducible rfl | exact hA12_lr_readAmount _ _ _ _ _
              · first | with_reducible rfl | exact hF13_lr_readAmount _ _ _ _ _ _ _ _ _ _ _ _
            · refine zb_el h (fun hb h => zU_t hTT hb ?_) (fun hb h => zU_f hTT hb ?_)
              · refine zl_el h (fun h => zU_l hTT ?_)
                refine zbd_el h (fun v20 hv h => zU_c hTT hv ?_)
                rw [hTT]
                have hz := zsi h hq
                refine zR2_hp ?_ ?_ hz
                · first | with_reducible rfl | exact hA12_lr_readAmount _ _ _ _ _
                · first | with_reducible rfl | exact hF13_lr_readAmount _ _ _ _ _ _ _ _ _ _ _ _
              · rw [hTT]
                have hz := zsi h hq
                refine (zO_mk ?_ ?_).trans hz
                · first | with_reducible rfl | exact hA8_lr_readAmount _ _ _
                · first | with_reducible rfl | exact hF9_lr_readAmount _ _ _ _ _ _
          · refine zg_el h (fun hg h => zU_g hTT hg ?_)
            refine zl_el h (fun h => zU_l hTT ?_)
            refine zl_el h (fun h => zU_l hTT ?_)
            refine zl_el h (fun h => zU_l hTT ?_)
            refine zl_el h (fun h => zU_l hTT ?_)
            refine zl_el h (fun h => zU_l hTT ?_)
            refine zb_el h (fun hb h => zU_t hTT hb ?_) (fun hb h => zU_f hTT hb ?_)
            · refine zl_el h (fun h => zU_l hTT ?_)
              refine zbd_el h (fun v27 hv h => zU_c hTT hv ?_)
              rw [hTT]
              have hz := zsi h hq
              refine zR2_hp ?_ ?_ hz
              · first | with_reducible rfl | exact hA10_lr_readAmount _ _ _ _ _ _ _
              · first | with_reducible rfl | exact hF14_lr_readAmount _ _ _ _ _ _ _ _ _ _ _ _ _ _
            · refine zb_el h (fun hb h => zU_t hTT hb ?_) (fun hb h => zU_f hTT hb ?_)
              · refine zl_el h (fun h => zU_l hTT ?_)
                refine zbd_el h (fun v29 hv h => zU_c hTT hv ?_)
                rw [hTT]
                have hz := zsi h hq
                refine zR2_hp ?_ ?_ hz
                · first | with_reducible rfl | exact hA10_lr_readAmount _ _ _ _ _ _ _
                · first | with_reducible rfl | exact hF14_lr_readAmount _ _ _ _ _ _ _ _ _ _ _ _ _ _
              · rw [hTT]
                have hz := zsi h hq
                refine (zO_mk ?_ ?_).trans hz
                · first | with_reducible rfl | exact hA12_lr_readAmount _ _ _ _ _
                · first | with_reducible rfl | exact hF15_lr_readAmount _ _ _ _ _ _ _ _
        · refine zl_el h (fun h => zU_l hTT ?_)
          refine zbd_el h (fun v31 hv h => zU_c hTT hv ?_)
          refine zg_el h (fun hg h => zU_g hTT hg ?_)
          refine zl_el h (fun h => zU_l hTT ?_)
          refine zl_el h (fun h => zU_l hTT ?_)
          refine zl_el h (fun h => zU_l hTT ?_)
          refine zl_el h (fun h => zU_l hTT ?_)
          refine zl_el h (fun h => zU_l hTT ?_)
          rw [hTT]
          have hz := zsi h hq
          refine zR2_hp ?_ ?_ hz
          · first | with_reducible rfl | exact hA10_lr_readAmount _ _ _ _ _ _ _
          · first | with_reducible rfl | exact hF11_lr_readAmount _ _ _ _ _ _ _ _ _ _ _ _ _ _
set_option maxRecDepth 1000000 in
theorem t_lr_readAmount_39_31 {X : Nat × (Nat → Int32)} {ar fi : Nat → Nat → Int32} {m1 m2 m4 m5 : Nat} {y : Int32} {Q_lr_readFactor : Int32 → (Nat → Int32) → (Nat → Int32) → (Nat → Int32) → Int32 → Int32 → Int32 → Int32 → Int32 → Int32 → Option ((Nat → Int32) × (Nat → Int32) × Int32 × Int32 × Int32 × Int32 × Int32)} {G_tx_sign : Int32 → Int32 → Int32 → (Nat → Int32) → Bool} {W_tx_sign : Int32 → Int32 → Int32 → (Nat → Int32) → Int32} {F0_tx_skip : Int32 → Int32} {G_lw_emit : Int32 → Int32 → Int32 → (Nat → Int32) → (Nat → Int32) → Int32 → Bool} {W_lw_emit : Int32 → Int32 → Int32 → (Nat → Int32) → (Nat → Int32) → Int32 → Int32} {A0_lw_emit : Int32 → Int32 → Int32 → (Nat → Int32) → (Nat → Int32) → Int32 → Nat → Int32} {A1_lw_emit : Int32 → Int32 → Int32 → (Nat → Int32) → (Nat → Int32) → Int32 → Nat → Int32} {F0_lw_emit : Int32 → Int32 → Int32 → (Nat → Int32) → (Nat → Int32) → Int32 → Int32} {F1_lw_emit : Int32 → Int32 → Int32 → (Nat → Int32) → (Nat → Int32) → Int32 → Int32} : zseg X zFT (zEx 54 (P_lr_readFactor Q_lr_readFactor) (zEx 93 (P_tx_sign G_tx_sign W_tx_sign) (zEx 95 (P_tx_skip F0_tx_skip) (zEx 40 (P_lw_emit G_lw_emit W_lw_emit A0_lw_emit A1_lw_emit F0_lw_emit F1_lw_emit) zE0)))) zc_53 (fun p => Nat.beq p 11) 400 0 [.ref 39, .ref 31, .int y] [] (ar, fi, (m1, m2, 1, m4, m5)) = (
  zl (Q_lr_readFactor y (ar 1) (ar 32) (ar 33) (fi 31 7) (fi 31 8) (fi 40 1) (fi 40 2) (fi 40 3) (fi 40 4)) (fun v1 => zg v1.isSome (
  some (.inl (11, [.ref 39, .ref 31, .int y, .int 0, .int 0], [], ((zua (zua ar 32 (((zgt v1).1))) 33 (((zgt v1).2.1))), (zuf (zuf (zuf (zuf (zuf fi 31 7 (((zgt v1).2.2.1))) 31 8 (((zgt v1).2.2.2.1))) 40 2 (((zgt v1).2.2.2.2.1))) 40 3 (((zgt v1).2.2.2.2.2.1))) 40 4 (((zgt v1).2.2.2.2.2.2))), (m1, m2, 1, m4, m5)))))) : Option ((Nat × List Value × List Value × zH2) ⊕ zO2)) := by with_unfolding_all rfl
set_option maxRecDepth 20000 in
theorem e_lr_readAmount_39_31 {X : Nat × (Nat → Int32)} {ar fi : Nat → Nat → Int32} {m1 m2 m4 m5 : Nat} {y : Int32} {Q_lr_readCondition : Int32 → (Nat → Int32) → (Nat → Int32) → (Nat → Int32) → Int32 → Int32 → Int32 → Int32 → Int32 → Int32 → Option ((Nat → Int32) × (Nat → Int32) × Int32 × Int32 × Int32 × Int32 × Int32)} {Q_lr_readTest : Int32 → (Nat → Int32) → (Nat → Int32) → (Nat → Int32) → Int32 → Int32 → Int32 → Int32 → Int32 → Int32 → Option ((Nat → Int32) × (Nat → Int32) × Int32 × Int32 × Int32 × Int32 × Int32)} {Q_lr_readAmount : Int32 → (Nat → Int32) → (Nat → Int32) → (Nat → Int32) → Int32 → Int32 → Int32 → Int32 → Int32 → Int32 → Option ((Nat → Int32) × (Nat → Int32) × Int32 × Int32 × Int32 × Int32 × Int32)} {Q_lr_readFactor : Int32 → (Nat → Int32) → (Nat → Int32) → (Nat → Int32) → Int32 → Int32 → Int32 → Int32 → Int32 → Int32 → Option ((Nat → Int32) × (Nat → Int32) × Int32 × Int32 × Int32 × Int32 × Int32)} {o : zO2} : ∀ (q : T_lr_readAmount), qG_lr_readAmount Q_lr_readCondition Q_lr_readTest Q_lr_readAmount Q_lr_readFactor y (ar 1) (ar 32) (ar 33) (fi 31 7) (fi 31 8) (fi 40 1) (fi 40 2) (fi 40 3) (fi 40 4) = some q → (fun t => O_lr_readAmount_39_31 ar fi m1 m2 m4 m5 t = o) q → zR2 X zFT (zEx 54 (P_lr_readFactor Q_lr_readFactor) (zEx 93 S_tx_sign (zEx 95 S_tx_skip (zEx 40 S_lw_emit zE0)))) zc_53 0 [.ref 39, .ref 31, .int y] [] (ar, fi, (m1, m2, 1, m4, m5)) o := by
  intro q h hq
  unfold qG_lr_readAmount at h
  refine zT_seg t_lr_readAmount_39_31 ?_
  obtain ⟨TT, hTT⟩ : ∃ T, T = zT X zFT (zEx 54 (P_lr_readFactor Q_lr_readFactor) (zEx 93 S_tx_sign (zEx 95 S_tx_skip (zEx 40 S_lw_emit zE0)))) zc_53 o := ⟨_, rfl⟩
  rw [← hTT]
  refine zbd_el h (fun v1 hv h => zU_c hTT hv ?_)
  rw [hTT]
  refine zR2_hp ?_ ?_ (zlp_K k_lr_readAmount_11_39_31 h hq)
  · first | with_reducible rfl | exact hA8_lr_readAmount _ _ _
  · first | with_reducible rfl | exact hF9_lr_readAmount _ _ _ _ _ _
