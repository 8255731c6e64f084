abbrev T_lr_readCondition : Type := (Nat → Int32) × (Nat → Int32) × Int32 × Int32 × Int32 × Int32 × Int32
abbrev U_lr_readCondition_14 : Type := Int32 × Int32 × Int32 × (Nat → Int32) × (Nat → Int32) × Int32 × Int32 × Int32 × Int32 × Int32
noncomputable def b_lr_readCondition_14 (Q_lr_readCondition : Int32 → (Nat → Int32) → (Nat → Int32) → (Nat → Int32) → Int32 → Int32 → Int32 → Int32 → Int32 → Int32 → Option ((Nat → Int32) × (Nat → Int32) × Int32 × Int32 × Int32 × Int32 × Int32)) (Q_lr_readTest : Int32 → (Nat → Int32) → (Nat → Int32) → (Nat → Int32) → Int32 → Int32 → Int32 → Int32 → Int32 → Int32 → Option ((Nat → Int32) × (Nat → Int32) × Int32 × Int32 × Int32 × Int32 × Int32)) (Q_lr_readAmount : Int32 → (Nat → Int32) → (Nat → Int32) → (Nat → Int32) → Int32 → Int32 → Int32 → Int32 → Int32 → Int32 → Option ((Nat → Int32) × (Nat → Int32) × Int32 × Int32 × Int32 × Int32 × Int32)) (Q_lr_readFactor : Int32 → (Nat → Int32) → (Nat → Int32) → (Nat → Int32) → Int32 → Int32 → Int32 → Int32 → Int32 → Int32 → Option ((Nat → Int32) × (Nat → Int32) × Int32 × Int32 × Int32 × Int32 × Int32)) (y : Int32) (a1 : Nat → Int32) (f40_1 : Int32) (l3 : Int32) (l4 : Int32) (l5 : Int32) (b24 : Nat → Int32) (b25 : Nat → Int32) (c23_7 : Int32) (c23_8 : Int32) (c40_2 : Int32) (c40_3 : Int32) (c40_4 : Int32) : Option (U_lr_readCondition_14 ⊕ T_lr_readCondition) :=
  bif decide (240 ≤ l5) then
   zbd (q_lw_aimHere l3 b25 c23_7) (fun v2 =>
   zbd (q_lw_aimHere l4 (v2) c23_7) (fun v3 =>
   some (.inr (b24, (v3), c23_7, c23_8, c40_2, c40_3, c40_4))))
  else
   zg (g_tx_sign c40_2 c40_4 (f40_1) a1) (
   zl (w_tx_sign c40_2 c40_4 (f40_1) a1) (fun v4 =>
   bif !decide (v4 = 38) then
    bif !decide (v4 = 124) then
     zbd (q_lw_aimHere l3 b25 c23_7) (fun v5 =>
     zbd (q_lw_aimHere l4 (v5) c23_7) (fun v6 =>
     some (.inr (b24, (v6), c23_7, c23_8, c40_2, c40_3, c40_4))))
    else
     zbd (q_lw_aimHere l3 b25 c23_7) (fun v7 =>
     zg (g_lw_emit 5 l4 c23_7 b24 (v7) c23_8) (
     zl (w_lw_emit 5 l4 c23_7 b24 (v7) c23_8) (fun v8 =>
     zl (a0_lw_emit 5 l4 c23_7 b24 (v7) c23_8) (fun v9 =>
     zl (a1_lw_emit 5 l4 c23_7 b24 (v7) c23_8) (fun v10 =>
     zl (f0_lw_emit 5 l4 c23_7 b24 (v7) c23_8) (fun v11 =>
     zl (f1_lw_emit 5 l4 c23_7 b24 (v7) c23_8) (fun v12 =>
     zl (f0_tx_skip c40_4) (fun v13 =>
     zbd (Q_lr_readTest y a1 v9 v10 v11 v12 (f40_1) c40_2 c40_3 v13) (fun v14 =>
     some (.inl ((-1), v8, l5 + 1, ((v14.1)), ((v14.2.1)), (v14.2.2.1), (v14.2.2.2.1), (v14.2.2.2.2.1), (v14.2.2.2.2.2.1), (v14.2.2.2.2.2.2))))))))))))
   else
    zg (g_lw_emit 4 l3 c23_7 b24 b25 c23_8) (
    zl (w_lw_emit 4 l3 c23_7 b24 b25 c23_8) (fun v15 =>
    zl (a0_lw_emit 4 l3 c23_7 b24 b25 c23_8) (fun v16 =>
    zl (a1_lw_emit 4 l3 c23_7 b24 b25 c23_8) (fun v17 =>
    zl (f0_lw_emit 4 l3 c23_7 b24 b25 c23_8) (fun v18 =>
    zl (f1_lw_emit 4 l3 c23_7 b24 b25 c23_8) (fun v19 =>
    zl (f0_tx_skip c40_4) (fun v20 =>
    zbd (Q_lr_readTest y a1 v16 v17 v18 v19 (f40_1) c40_2 c40_3 v20) (fun v21 =>
    some (.inl (v15, l4, l5 + 1, ((v21.1)), ((v21.2.1)), (v21.2.2.1), (v21.2.2.2.1), (v21.2.2.2.2.1), (v21.2.2.2.2.2.1), (v21.2.2.2.2.2.2)))))))))))))
noncomputable def f_lr_readCondition_14 (Q_lr_readCondition : Int32 → (Nat → Int32) → (Nat → Int32) → (Nat → Int32) → Int32 → Int32 → Int32 → Int32 → Int32 → Int32 → Option ((Nat → Int32) × (Nat → Int32) × Int32 × Int32 × Int32 × Int32 × Int32)) (Q_lr_readTest : Int32 → (Nat → Int32) → (Nat → Int32) → (Nat → Int32) → Int32 → Int32 → Int32 → Int32 → Int32 → Int32 → Option ((Nat → Int32) × (Nat → Int32) × Int32 × Int32 × Int32 × Int32 × Int32)) (Q_lr_readAmount : Int32 → (Nat → Int32) → (Nat → Int32) → (Nat → Int32) → Int32 → Int32 → Int32 → Int32 → Int32 → Int32 → Option ((Nat → Int32) × (Nat → Int32) × Int32 × Int32 × Int32 × Int32 × Int32)) (Q_lr_readFactor : Int32 → (Nat → Int32) → (Nat → Int32) → (Nat → Int32) → Int32 → Int32 → Int32 → Int32 → Int32 → Int32 → Option ((Nat → Int32) × (Nat → Int32) × Int32 × Int32 × Int32 × Int32 × Int32)) (y : Int32) (a1 : Nat → Int32) (f40_1 : Int32) : U_lr_readCondition_14 → Option (U_lr_readCondition_14 ⊕ T_lr_readCondition) := fun s => b_lr_readCondition_14 Q_lr_readCondition Q_lr_readTest Q_lr_readAmount Q_lr_readFactor y a1 f40_1 s.1 s.2.1 s.2.2.1 s.2.2.2.1 s.2.2.2.2.1 s.2.2.2.2.2.1 s.2.2.2.2.2.2.1 s.2.2.2.2.2.2.2.1 s.2.2.2.2.2.2.2.2.1 s.2.2.2.2.2.2.2.2.2
noncomputable def l_lr_readCondition_14 (Q_lr_readCondition : Int32 → (Nat → Int32) → (Nat → Int32) → (Nat → Int32) → Int32 → Int32 → Int32 → Int32 → Int32 → Int32 → Option ((Nat → Int32) × (Nat → Int32) × Int32 × Int32 × Int32 × Int32 × Int32)) (Q_lr_readTest : Int32 → (Nat → Int32) → (Nat → Int32) → (Nat → Int32) → Int32 → Int32 → Int32 → Int32 → Int32 → Int32 → Option ((Nat → Int32) × (Nat → Int32) × Int32 × Int32 × Int32 × Int32 × Int32)) (Q_lr_readAmount : Int32 → (Nat → Int32) → (Nat → Int32) → (Nat → Int32) → Int32 → Int32 → Int32 → Int32 → Int32 → Int32 → Option ((Nat → Int32) × (Nat → Int32) × Int32 × Int32 × Int32 × Int32 × Int32)) (Q_lr_readFactor : Int32 → (Nat → Int32) → (Nat → Int32) → (Nat → Int32) → Int32 → Int32 → Int32 → Int32 → Int32 → Int32 → Option ((Nat → Int32) × (Nat → Int32) × Int32 × Int32 × Int32 × Int32 × Int32)) (y : Int32) (a1 : Nat → Int32) (f40_1 : Int32) (l3 : Int32) (l4 : Int32) (l5 : Int32) (b24 : Nat → Int32) (b25 : Nat → Int32) (c23_7 : Int32) (c23_8 : Int32) (c40_2 : Int32) (c40_3 : Int32) (c40_4 : Int32) : Option T_lr_readCondition := zlp (f_lr_readCondition_14 Q_lr_readCondition Q_lr_readTest Q_lr_readAmount Q_lr_readFactor y a1 f40_1) (l3, l4, l5, b24, b25, c23_7, c23_8, c40_2, c40_3, c40_4)
noncomputable def qG_lr_readCondition (Q_lr_readCondition : Int32 → (Nat → Int32) → (Nat → Int32) → (Nat → Int32) → Int32 → Int32 → Int32 → Int32 → Int32 → Int32 → Option ((Nat → Int32) × (Nat → Int32) × Int32 × Int32 × Int32 × Int32 × Int32)) (Q_lr_readTest : Int32 → (Nat → Int32) → (Nat → Int32) → (Nat → Int32) → Int32 → Int32 → Int32 → Int32 → Int32 → Int32 → Option ((Nat → Int32) × (Nat → Int32) × Int32 × Int32 × Int32 × Int32 × Int32)) (Q_lr_readAmount : Int32 → (Nat → Int32) → (Nat → Int32) → (Nat → Int32) → Int32 → Int32 → Int32 → Int32 → Int32 → Int32 → Option ((Nat → Int32) × (Nat → Int32) × Int32 × Int32 × Int32 × Int32 × Int32)) (Q_lr_readFactor : Int32 → (Nat → Int32) → (Nat → Int32) → (Nat → Int32) → Int32 → Int32 → Int32 → Int32 → Int32 → Int32 → Option ((Nat → Int32) × (Nat → Int32) × Int32 × Int32 × Int32 × Int32 × Int32)) (y : Int32) (a1 : Nat → Int32) (a24 : Nat → Int32) (a25 : Nat → Int32) (f23_7 : Int32) (f23_8 : Int32) (f40_1 : Int32) (f40_2 : Int32) (f40_3 : Int32) (f40_4 : Int32) : Option T_lr_readCondition :=
  zbd (Q_lr_readTest y a1 a24 a25 (f23_7) (f23_8) (f40_1) (f40_2) (f40_3) (f40_4)) (fun v1 =>
  l_lr_readCondition_14 Q_lr_readCondition Q_lr_readTest Q_lr_readAmount Q_lr_readFactor y a1 f40_1 (-1) (-1) 0 ((v1.1)) ((v1.2.1)) ((v1.2.2.1)) ((v1.2.2.2.1)) ((v1.2.2.2.2.1)) ((v1.2.2.2.2.2.1)) ((v1.2.2.2.2.2.2)))
theorem hA11_lr_readCondition (F : Nat → Nat → Int32) (w0 w1 : Nat → Int32) : (zua (zua F 32 w0) 33 w1) = (zua (zua F 32 w0) 33 w1) := zuak_ix F [(32, w0), (33, w1)] [(32, some 0), (33, some 1)] rfl
theorem hA10_lr_readCondition (F : Nat → Nat → Int32) (w0 w1 w2 w3 w4 w5 : Nat → Int32) : (zua (zua (zua (zua (zua (zua F 32 w0) 33 w1) 32 w2) 33 w3) 32 w4) 33 w5) = (zua (zua F 32 w4) 33 w5) := zuak_ix F [(32, w0), (33, w1), (32, w2), (33, w3), (32, w4), (33, w5)] [(32, some 4), (33, some 5)] rfl
theorem hF9_lr_readCondition (F : Nat → Nat → Int32) (w0 w1 w2 w3 w4 w5 w6 w7 w8 w9 w10 w11 w12 : Int32) : (zuf (zuf (zuf (zuf (zuf (zuf (zuf (zuf (zuf (zuf (zuf (zuf (zuf F 31 7 w0) 31 8 w1) 40 2 w2) 40 3 w3) 40 4 w4) 31 7 w5) 31 8 w6) 40 4 w7) 31 7 w8) 31 8 w9) 40 2 w10) 40 3 w11) 40 4 w12) = (zuf (zuf (zuf (zuf (zuf F 31 7 w8) 31 8 w9) 40 2 w10) 40 3 w11) 40 4 w12) := zufk_ix F [((31, 7), w0), ((31, 8), w1), ((40, 2), w2), ((40, 3), w3), ((40, 4), w4), ((31, 7), w5), ((31, 8), w6), ((40, 4), w7), ((31, 7), w8), ((31, 8), w9), ((40, 2), w10), ((40, 3), w11), ((40, 4), w12)] [((31, 7), some 8), ((31, 8), some 9), ((40, 2), some 10), ((40, 3), some 11), ((40, 4), some 12)] rfl
theorem hA8_lr_readCondition (F : Nat → Nat → Int32) (w0 w1 w2 w3 w4 w5 w6 : Nat → Int32) : (zua (zua (zua (zua (zua (zua (zua F 32 w0) 33 w1) 33 w2) 32 w3) 33 w4) 32 w5) 33 w6) = (zua (zua F 32 w5) 33 w6) := zuak_ix F [(32, w0), (33, w1), (33, w2), (32, w3), (33, w4), (32, w5), (33, w6)] [(32, some 5), (33, some 6)] rfl
theorem hF7_lr_readCondition (F : Nat → Nat → Int32) (w0 w1 w2 w3 w4 : Int32) : (zuf (zuf (zuf (zuf (zuf F 31 7 w0) 31 8 w1) 40 2 w2) 40 3 w3) 40 4 w4) = (zuf (zuf (zuf (zuf (zuf F 31 7 w0) 31 8 w1) 40 2 w2) 40 3 w3) 40 4 w4) := zufk_ix F [((31, 7), w0), ((31, 8), w1), ((40, 2), w2), ((40, 3), w3), ((40, 4), w4)] [((31, 7), some 0), ((31, 8), some 1), ((40, 2), some 2), ((40, 3), some 3), ((40, 4), some 4)] rfl
theorem hA6_lr_readCondition (F : Nat → Nat → Int32) (w0 w1 w2 w3 : Nat → Int32) : (zua (zua (zua (zua F 32 w0) 33 w1) 33 w2) 33 w3) = (zua (zua F 32 w0) 33 w3) := zuak_ix F [(32, w0), (33, w1), (33, w2), (33, w3)] [(32, some 0), (33, some 3)] rfl
theorem hA5_lr_readCondition (F : Nat → Nat → Int32) (w0 w1 : Nat → Int32) : (zua (zua F 24 w0) 25 w1) = (zua (zua F 24 w0) 25 w1) := zuak_ix F [(24, w0), (25, w1)] [(24, some 0), (25, some 1)] rfl
theorem hA4_lr_readCondition (F : Nat → Nat → Int32) (w0 w1 w2 w3 w4 w5 : Nat → Int32) : (zua (zua (zua (zua (zua (zua F 24 w0) 25 w1) 24 w2) 25 w3) 24 w4) 25 w5) = (zua (zua F 24 w4) 25 w5) := zuak_ix F [(24, w0), (25, w1), (24, w2), (25, w3), (24, w4), (25, w5)] [(24, some 4), (25, some 5)] rfl
theorem hF3_lr_readCondition (F : Nat → Nat → Int32) (w0 w1 w2 w3 w4 w5 w6 w7 w8 w9 w10 w11 w12 : Int32) : (zuf (zuf (zuf (zuf (zuf (zuf (zuf (zuf (zuf (zuf (zuf (zuf (zuf F 23 7 w0) 23 8 w1) 40 2 w2) 40 3 w3) 40 4 w4) 23 7 w5) 23 8 w6) 40 4 w7) 23 7 w8) 23 8 w9) 40 2 w10) 40 3 w11) 40 4 w12) = (zuf (zuf (zuf (zuf (zuf F 23 7 w8) 23 8 w9) 40 2 w10) 40 3 w11) 40 4 w12) := zufk_ix F [((23, 7), w0), ((23, 8), w1), ((40, 2), w2), ((40, 3), w3), ((40, 4), w4), ((23, 7), w5), ((23, 8), w6), ((40, 4), w7), ((23, 7), w8), ((23, 8), w9), ((40, 2), w10), ((40, 3), w11), ((40, 4), w12)] [((23, 7), some 8), ((23, 8), some 9), ((40, 2), some 10), ((40, 3), some 11), ((40, 4), some 12)] rfl
theorem hA2_lr_readCondition (F : Nat → Nat → Int32) (w0 w1 w2 w3 w4 w5 w6 : Nat → Int32) : (zua (zua (zua (zua (zua (zua (zua F 24 w0) 25 w1) 25 w2) 24 w3) 25 w4) 24 w5) 25 w6) = (zua (zua F 24 w5) 25 w6) := zuak_ix F [(24, w0), (25, w1), (25, w2), (24, w3), (25, w4), (24, w5), (25, w6)] [(24, some 5), (25, some 6)] rfl
theorem hF1_lr_readCondition (F : Nat → Nat → Int32) (w0 w1 w2 w3 w4 : Int32) : (zuf (zuf (zuf (zuf (zuf F 23 7 w0) 23 8 w1) 40 2 w2) 40 3 w3) 40 4 w4) = (zuf (zuf (zuf (zuf (zuf F 23 7 w0) 23 8 w1) 40 2 w2) 40 3 w3) 40 4 w4) := zufk_ix F [((23, 7), w0), ((23, 8), w1), ((40, 2), w2), ((40, 3), w3), ((40, 4), w4)] [((23, 7), some 0), ((23, 8), some 1), ((40, 2), some 2), ((40, 3), some 3), ((40, 4), some 4)] rfl
theorem hA0_lr_readCondition (F : Nat → Nat → Int32) (w0 w1 w2 w3 : Nat → Int32) : (zua (zua (zua (zua F 24 w0) 25 w1) 25 w2) 25 w3) = (zua (zua F 24 w0) 25 w3) := zuak_ix F [(24, w0), (25, w1), (25, w2), (25, w3)] [(24, some 0), (25, some 3)] rfl
def O_lr_readCondition_39_23 (ar fi : Nat → Nat → Int32) (m1 : Nat) (m2 : Nat) (m4 : Nat) (m5 : Nat) (t : T_lr_readCondition) : zO2 := match t with
  | (t0, t1, t2, t3, t4, t5, t6) => (none, ((zua (zua ar 24 t0) 25 t1), (zuf (zuf (zuf (zuf (zuf fi 23 7 t2) 23 8 t3) 40 2 t4) 40 3 t5) 40 4 t6), (m1, m2, 1, m4, m5)))
def M_lr_readCondition_14_39_23 (X : Nat × (Nat → Int32)) (E : zTE) (ar fi : Nat → Nat → Int32) (m1 : Nat) (m2 : Nat) (m4 : Nat) (m5 : Nat) (y : Int32) (o : zO2) (s : U_lr_readCondition_14) : Prop := match s with
  | (l3, l4, l5, b24, b25, c23_7, c23_8, c40_2, c40_3, c40_4) => zR2 X zFT E zc_51 14 [.ref 39, .ref 23, .int y, .int l3, .int l4, .int l5] [] ((zua (zua ar 24 b24) 25 b25), (zuf (zuf (zuf (zuf (zuf fi 23 7 c23_7) 23 8 c23_8) 40 2 c40_2) 40 3 c40_3) 40 4 c40_4), (m1, m2, 1, m4, m5)) o
set_option maxRecDepth 1000000 in
theorem t14_lr_readCondition_39_23 {X : Nat × (Nat → Int32)} {ar fi : Nat → Nat → Int32} {m1 m2 m4 m5 : Nat} {y : Int32} {l3 : Int32} {l4 : Int32} {l5 : Int32} {b24 : Nat → Int32} {b25 : Nat → Int32} {c23_7 : Int32} {c23_8 : Int32} {c40_2 : Int32} {c40_3 : Int32} {c40_4 : Int32} {Q_lr_readTest : Int32 → (Nat → Int32) → (Nat → Int32) → (Nat → Int32) → Int32 → Int32 → Int32 → Int32 → Int32 → Int32 → Option ((Nat → Int32) × (Nat → Int32) × Int32 × Int32 × Int32 × Int32 × Int32)} {G_tx_sign : Int32 → Int32 → Int32 → (Nat → Int32) → Bool} {W_tx_sign : Int32 → Int32 → Int32 → (Nat → Int32) → Int32} {G_lw_emit : Int32 → Int32 → Int32 → (Nat → Int32) → (Nat → Int32) → Int32 → Bool} {W_lw_emit : Int32 → Int32 → Int32 → (Nat → Int32) → (Nat → Int32) → Int32 → Int32} {A0_lw_emit : Int32 → Int32 → Int32 → (Nat → Int32) → (Nat → Int32) → Int32 → Nat → Int32} {A1_lw_emit : Int32 → Int32 → Int32 → (Nat → Int32) → (Nat → Int32) → Int32 → Nat → Int32} {F0_lw_emit : Int32 → Int32 → Int32 → (Nat → Int32) → (Nat → Int32) → Int32 → Int32} {F1_lw_emit : Int32 → Int32 → Int32 → (Nat → Int32) → (Nat → Int32) → Int32 → Int32} {Q_lw_aimHere : Int32 → (Nat → Int32) → Int32 → Option ((Nat → Int32))} {F0_tx_skip : Int32 → Int32} : zseg X zFT (zEx 52 (P_lr_readTest Q_lr_readTest) (zEx 93 (P_tx_sign G_tx_sign W_tx_sign) (zEx 40 (P_lw_emit G_lw_emit W_lw_emit A0_lw_emit A1_lw_emit F0_lw_emit F1_lw_emit) (zEx 41 (P_lw_aimHere Q_lw_aimHere) (zEx 95 (P_tx_skip F0_tx_skip) zE0))))) zc_51 (fun p => Nat.beq p 14) 400 14 [.ref 39, .ref 23, .int y, .int l3, .int l4, .int l5] [] ((zua (zua ar 24 b24) 25 b25), (zuf (zuf (zuf (zuf (zuf fi 23 7 c23_7) 23 8 c23_8) 40 2 c40_2) 40 3 c40_3) 40 4 c40_4), (m1, m2, 1, m4, m5)) = (
  bif decide (240 ≤ l5) then
   zl (Q_lw_aimHere l3 b25 c23_7) (fun v2 => zg v2.isSome (
   zl (Q_lw_aimHere l4 (((zgt v2))) c23_7) (fun v3 => zg v3.isSome (
   some (.inr (none, ((zua (zua (zua (zua ar 24 b24) 25 b25) 25 (((zgt v2)))) 25 (((zgt v3)))), (zuf (zuf (zuf (zuf (zuf fi 23 7 c23_7) 23 8 c23_8) 40 2 c40_2) 40 3 c40_3) 40 4 c40_4), (m1, m2, 1, m4, m5))))))))
  else
   zg (G_tx_sign c40_2 c40_4 (fi 40 1) (ar 1)) (
   zl (W_tx_sign c40_2 c40_4 (fi 40 1) (ar 1)) (fun v4 =>
   bif !decide (v4 = 38) then
    bif !decide (v4 = 124) then
     zl (Q_lw_aimHere l3 b25 c23_7) (fun v5 => zg v5.isSome (
     zl (Q_lw_aimHere l4 (((zgt v5))) c23_7) (fun v6 => zg v6.isSome (
     some (.inr (none, ((zua (zua (zua (zua ar 24 b24) 25 b25) 25 (((zgt v5)))) 25 (((zgt v6)))), (zuf (zuf (zuf (zuf (zuf fi 23 7 c23_7) 23 8 c23_8) 40 2 c40_2) 40 3 c40_3) 40 4 c40_4), (m1, m2, 1, m4, m5))))))))
    else
     zl (Q_lw_aimHere l3 b25 c23_7) (fun v7 => zg v7.isSome (
     zg (G_lw_emit 5 l4 c23_7 b24 (((zgt v7))) c23_8) (
     zl (W_lw_emit 5 l4 c23_7 b24 (((zgt v7))) c23_8) (fun v8 =>
     zl (A0_lw_emit 5 l4 c23_7 b24 (((zgt v7))) c23_8) (fun v9 =>
     zl (A1_lw_emit 5 l4 c23_7 b24 (((zgt v7))) c23_8) (fun v10 =>
     zl (F0_lw_emit 5 l4 c23_7 b24 (((zgt v7))) c23_8) (fun v11 =>
     zl (F1_lw_emit 5 l4 c23_7 b24 (((zgt v7))) c23_8) (fun v12 =>
     zl (F0_tx_skip c40_4) (fun v13 =>
     zl (Q_lr_readTest y (ar 1) v9 v10 v11 v12 (fi 40 1) c40_2 c40_3 v13) (fun v14 => zg v14.isSome (
     some (.inl (14, [.ref 39, .ref 23, .int y, .int (-1), .int v8, .int (l5 + 1)], [], ((zua (zua (zua (zua (zua (zua (zua ar 24 b24) 25 b25) 25 (((zgt v7)))) 24 v9) 25 v10) 24 (((zgt v14).1))) 25 (((zgt v14).2.1))), (zuf (zuf (zuf (zuf (zuf (zuf (zuf (zuf (zuf (zuf (zuf (zuf (zuf fi 23 7 c23_7) 23 8 c23_8) 40 2 c40_2) 40 3 c40_3) 40 4 c40_4) 23 7 v11) 23 8 v12) 40 4 v13) 23 7 (((zgt v14).2.2.1))) 23 8 (((zgt v14).2.2.2.1))) 40 2 (((zgt v14).2.2.2.2.1))) 40 3 (((zgt v14).2.2.2.2.2.1))) 40 4 (((zgt v14).2.2.2.2.2.2))), (m1, m2, 1, m4, m5)))))))))))))))
   else
    zg (G_lw_emit 4 l3 c23_7 b24 b25 c23_8) (
    zl (W_lw_emit 4 l3 c23_7 b24 b25 c23_8) (fun v15 =>
    zl (A0_lw_emit 4 l3 c23_7 b24 b25 c23_8) (fun v16 =>
    zl (A1_lw_emit 4 l3 c23_7 b24 b25 c23_8) (fun v17 =>
    zl (F0_lw_emit 4 l3 c23_7 b24 b25 c23_8) (fun v18 =>
    zl (F1_lw_emit 4 l3 c23_7 b24 b25 c23_8) (fun v19 =>
    zl (F0_tx_skip c40_4) (fun v20 =>
    zl (Q_lr_readTest y (ar 1) v16 v17 v18 v19 (fi 40 1) c40_2 c40_3 v20) (fun v21 => zg v21.isSome (
    some (.inl (14, [.ref 39, .ref 23, .int y, .int v15, .int l4, .int (l5 + 1)], [], ((zua (zua (zua (zua (zua (zua ar 24 b24) 25 b25) 24 v16) 25 v17) 24 (((zgt v21).1))) 25 (((zgt v21).2.1))), (zuf (zuf (zuf (zuf (zuf (zuf (zuf (zuf (zuf (zuf (zuf (zuf (zuf fi 23 7 c23_7) 23 8 c23_8) 40 2 c40_2) 40 3 c40_3) 40 4 c40_4) 23 7 v18) 23 8 v19) 40 4 v20) 23 7 (((zgt v21).2.2.1))) 23 8 (((zgt v21).2.2.2.1))) 40 2 (((zgt v21).2.2.2.2.1))) 40 3 (((zgt v21).2.2.2.2.2.1))) 40 4 (((zgt v21).2.2.2.2.2.2))), (m1, m2, 1, m4, m5))))))))))))))) : Option ((Nat × List Value × List Value × zH2) ⊕ zO2)) := by with_unfolding_all rfl
set_option maxRecDepth 20000 in
theorem k_lr_readCondition_14_39_23 {X : Nat × (Nat → Int32)} {ar fi : Nat → Nat → Int32} {m1 m2 m4 m5 : Nat} {y : Int32} {Q_lr_readCondition : Int32 → (Nat → Int32) → (Nat → Int32) → (Nat → Int32) → Int32 → Int32 → Int32 → Int32 → Int32 → Int32 → Option ((Nat → Int32) × (Nat → Int32) × Int32 × Int32 × Int32 × Int32 × Int32)} {Q_lr_readTest : Int32 → (Nat → Int32) → (Nat → Int32) → (Nat → Int32) → Int32 → Int32 → Int32 → Int32 → Int32 → Int32 → Option ((Nat → Int32) × (Nat → Int32) × Int32 × Int32 × Int32 × Int32 × Int32)} {Q_lr_readAmount : Int32 → (Nat → Int32) → (Nat → Int32) → (Nat → Int32) → Int32 → Int32 → Int32 → Int32 → Int32 → Int32 → Option ((Nat → Int32) × (Nat → Int32) × Int32 × Int32 × Int32 × Int32 × Int32)} {Q_lr_readFactor : Int32 → (Nat → Int32) → (Nat → Int32) → (Nat → Int32) → Int32 → Int32 → Int32 → Int32 → Int32 → Int32 → Option ((Nat → Int32) × (Nat → Int32) × Int32 × Int32 × Int32 × Int32 × Int32)} {o : zO2} : ∀ (s : U_lr_readCondition_14) (q : U_lr_readCondition_14 ⊕ T_lr_readCondition), f_lr_readCondition_14 Q_lr_readCondition Q_lr_readTest Q_lr_readAmount Q_lr_readFactor y (ar 1) (fi 40 1) s = some q → zq (M_lr_readCondition_14_39_23 X (zEx 52 (P_lr_readTest Q_lr_readTest) (zEx 93 S_tx_sign (zEx 40 S_lw_emit (zEx 41 S_lw_aimHere (zEx 95 S_tx_skip zE0))))) ar fi m1 m2 m4 m5 y o) (fun t => O_lr_readCondition_39_23 ar fi m1 m2 m4 m5 t = o) q → M_lr_readCondition_14_39_23 X (zEx 52 (P_lr_readTest Q_lr_readTest) (zEx 93 S_tx_sign (zEx 40 S_lw_emit (zEx 41 S_lw_aimHere (zEx 95 S_tx_skip zE0))))) ar fi m1 m2 m4 m5 y o s := by
  intro s q h hq
  obtain ⟨l3, l4, l5, b24, b25, c23_7, c23_8, c40_2, c40_3, c40_4⟩ := s
  have h : b_lr_readCondition_14 Q_lr_readCondition Q_lr_readTest Q_lr_readAmount Q_lr_readFactor y (ar 1) (fi 40 1) l3 l4 l5 b24 b25 c23_7 c23_8 c40_2 c40_3 c40_4 = some q := h
  unfold b_lr_readCondition_14 at h
  show zR2 X zFT (zEx 52 (P_lr_readTest Q_lr_readTest) (zEx 93 S_tx_sign (zEx 40 S_lw_emit (zEx 41 S_lw_aimHere (zEx 95 S_tx_skip zE0))))) zc_51 14 [.ref 39, .ref 23, .int y, .int l3, .int l4, .int l5] [] ((zua (zua ar 24 b24) 25 b25), (zuf (zuf (zuf (zuf (zuf fi 23 7 c23_7) 23 8 c23_8) 40 2 c40_2) 40 3 c40_3) 40 4 c40_4), (m1, m2, 1, m4, m5)) o
  refine zT_seg t14_lr_readCondition_39_23 ?_
  obtain ⟨TT, hTT⟩ : ∃ T, T = zT X zFT (zEx 52 (P_lr_readTest Q_lr_readTest) (zEx 93 S_tx_sign (zEx 40 S_lw_emit (zEx 41 S_lw_aimHere (zEx 95 S_tx_skip zE0))))) zc_51 o := ⟨_, rfl⟩
  rw [← hTT]
  refine zb_el h (fun hb h => zU_t hTT hb ?_) (fun hb h => zU_f hTT hb ?_)
  · refine zbd_el h (fun v2 hv h => zU_c hTT hv ?_)
    refine zbd_el h (fun v3 hv h => zU_c hTT hv ?_)
    rw [hTT]
    have hz := zsi h hq
    refine (zO_mk ?_ ?_).trans hz
    · first | with_reducible rfl | exact hA0_lr_readCondition _ _ _ _ _
    · first | with_reducible rfl | exact hF1_lr_readCondition _ _ _ _ _ _
  · refine zg_el h (fun hg h => zU_g hTT hg ?_)
    refine zl_el h (fun h => zU_l hTT ?_)
    refine zb_el h (fun hb h => zU_t hTT hb ?_) (fun hb h => zU_f hTT hb ?_)
    · refine zb_el h (fun hb h => zU_t hTT hb ?_) (fun hb h => zU_f hTT hb ?_)
      · refine zbd_el h (fun v5 hv h => zU_c hTT hv ?_)
        refine zbd_el h (fun v6 hv h => zU_c hTT hv ?_)
        rw [hTT]
        have hz := zsi h hq
        refine (zO_mk ?_ ?_).trans hz
        · first | with_reducible rfl | exact hA0_lr_readCondition _ _ _ _ _
        · first | with_reducible rfl | exact hF1_lr_readCondition _ _ _ _ _ _
      · refine zbd_el h (fun v7 hv h => zU_c hTT hv ?_)
        refine zg_el h (fun hg h => zU_g hTT hg ?_)
        refine zl_el h (fun h => zU_l hTT ?_)
        refine zl_el h (fun h => zU_l hTT ?_)
        refine zl_el h (fun h => zU_l hTT ?_)
        refine zl_el h (fun h => zU_l hTT ?_)
        refine zl_el h (fun h => zU_l hTT ?_)
        refine zl_el h (fun h => zU_l hTT ?_)
        refine zbd_el h (fun v14 hv h => zU_c hTT hv ?_)
        rw [hTT]
        have hz := zsi h hq
        refine zR2_hp ?_ ?_ hz
        · first | with_reducible rfl | exact hA2_lr_readCondition _ _ _ _ _ _ _ _
        · first | with_reducible rfl | exact hF3_lr_readCondition _ _ _ _ _ _ _ _ _ _ _ _ _ _
    · refine zg_el h (fun hg h => zU_g hTT hg ?_)
      refine zl_el h (fun h => zU_l hTT ?_)
      refine zl_el h (fun h => zU_l hTT ?_)
      refine zl_el h (fun h => zU_l hTT ?_)
      refine zl_el h (fun h => zU_l hTT ?_)
      refine zl_el h (fun h => zU_l hTT ?_)
      refine zl_el h (fun h => zU_l hTT ?_)
      refine zbd_el h (fun v21 hv h => zU_c hTT hv ?_)
      rw [hTT]
      have hz := zsi h hq
      refine zR2_hp ?_ ?_ hz
      · first | with_reducible rfl | exact hA4_lr_readCondition _ _ _ _ _ _ _
      · first | with_reducible rfl | exact hF3_lr_readCondition _ _ _ _ _ _ _ _ _ _ _ _ _ _
set_option maxRecDepth 1000000 in
theorem t_lr_readCondition_39_23 {X : Nat × (Nat → Int32)} {ar fi : Nat → Nat → Int32} {m1 m2 m4 m5 : Nat} {y : Int32} {Q_lr_readTest : Int32 → (Nat → Int32) → (Nat → Int32) → (Nat → Int32) → Int32 → Int32 → Int32 → Int32 → Int32 → Int32 → Option ((Nat → Int32) × (Nat → Int32) × Int32 × Int32 × Int32 × Int32 × Int32)} {G_tx_sign : Int32 → Int32 → Int32 → (Nat → Int32) → Bool} {W_tx_sign : Int32 → Int32 → Int32 → (Nat → Int32) → Int32} {G_lw_emit : Int32 → Int32 → Int32 → (Nat → Int32) → (Nat → Int32) → Int32 → Bool} {W_lw_emit : Int32 → Int32 → Int32 → (Nat → Int32) → (Nat → Int32) → Int32 → Int32} {A0_lw_emit : Int32 → Int32 → Int32 → (Nat → Int32) → (Nat → Int32) → Int32 → Nat → Int32} {A1_lw_emit : Int32 → Int32 → Int32 → (Nat → Int32) → (Nat → Int32) → Int32 → Nat → Int32} {F0_lw_emit : Int32 → Int32 → Int32 → (Nat → Int32) → (Nat → Int32) → Int32 → Int32} {F1_lw_emit : Int32 → Int32 → Int32 → (Nat → Int32) → (Nat → Int32) → Int32 → Int32} {Q_lw_aimHere : Int32 → (Nat → Int32) → Int32 → Option ((Nat → Int32))} {F0_tx_skip : Int32 → Int32} : zseg X zFT (zEx 52 (P_lr_readTest Q_lr_readTest) (zEx 93 (P_tx_sign G_tx_sign W_tx_sign) (zEx 40 (P_lw_emit G_lw_emit W_lw_emit A0_lw_emit A1_lw_emit F0_lw_emit F1_lw_emit) (zEx 41 (P_lw_aimHere Q_lw_aimHere) (zEx 95 (P_tx_skip F0_tx_skip) zE0))))) zc_51 (fun p => Nat.beq p 14) 400 0 [.ref 39, .ref 23, .int y] [] (ar, fi, (m1, m2, 1, m4, m5)) = (
  zl (Q_lr_readTest y (ar 1) (ar 24) (ar 25) (fi 23 7) (fi 23 8) (fi 40 1) (fi 40 2) (fi 40 3) (fi 40 4)) (fun v1 => zg v1.isSome (
  some (.inl (14, [.ref 39, .ref 23, .int y, .int (-1), .int (-1), .int 0], [], ((zua (zua ar 24 (((zgt v1).1))) 25 (((zgt v1).2.1))), (zuf (zuf (zuf (zuf (zuf fi 23 7 (((zgt v1).2.2.1))) 23 8 (((zgt v1).2.2.2.1))) 40 2 (((zgt v1).2.2.2.2.1))) 40 3 (((zgt v1).2.2.2.2.2.1))) 40 4 (((zgt v1).2.2.2.2.2.2))), (m1, m2, 1, m4, m5)))))) : Option ((Nat × List Value × List Value × zH2) ⊕ zO2)) := by with_unfolding_all rfl
set_option maxRecDepth 20000 in
theorem e_lr_readCondition_39_23 {X : Nat × (Nat → Int32)} {ar fi : Nat → Nat → Int32} {m1 m2 m4 m5 : Nat} {y : Int32} {Q_lr_readCondition : Int32 → (Nat → Int32) → (Nat → Int32) → (Nat → Int32) → Int32 → Int32 → Int32 → Int32 → Int32 → Int32 → Option ((Nat → Int32) × (Nat → Int32) × Int32 × Int32 × Int32 × Int32 × Int32)} {Q_lr_readTest : Int32 → (Nat → Int32) → (Nat → Int32) → (Nat → Int32) → Int32 → Int32 → Int32 → Int32 → Int32 → Int32 → Option ((Nat → Int32) × (Nat → Int32) × Int32 × Int32 × Int32 × Int32 × Int32)} {Q_lr_readAmount : Int32 → (Nat → Int32) → (Nat → Int32) → (Nat → Int32) → Int32 → Int32 → Int32 → Int32 → Int32 → Int32 → Option ((Nat → Int32) × (Nat → Int32) × Int32 × Int32 × Int32 × Int32 × Int32)} {Q_lr_readFactor : Int32 → (Nat → Int32) → (Nat → Int32) → (Nat → Int32) → Int32 → Int32 → Int32 → Int32 → Int32 → Int32 → Option ((Nat → Int32) × (Nat → Int32) × Int32 × Int32 × Int32 × Int32 × Int32)} {o : zO2} : ∀ (q : T_lr_readCondition), qG_lr_readCondition Q_lr_readCondition Q_lr_readTest Q_lr_readAmount Q_lr_readFactor y (ar 1) (ar 24) (ar 25) (fi 23 7) (fi 23 8) (fi 40 1) (fi 40 2) (fi 40 3) (fi 40 4) = some q → (fun t => O_lr_readCondition_39_23 ar fi m1 m2 m4 m5 t = o) q → zR2 X zFT (zEx 52 (P_lr_readTest Q_lr_readTest) (zEx 93 S_tx_sign (zEx 40 S_lw_emit (zEx 41 S_lw_aimHere (zEx 95 S_tx_skip zE0))))) zc_51 0 [.ref 39, .ref 23, .int y] [] (ar, fi, (m1, m2, 1, m4, m5)) o := by
  intro q h hq
  unfold qG_lr_readCondition at h
  refine zT_seg t_lr_readCondition_39_23 ?_
  obtain ⟨TT, hTT⟩ : ∃ T, T = zT X zFT (zEx 52 (P_lr_readTest Q_lr_readTest) (zEx 93 S_tx_sign (zEx 40 S_lw_emit (zEx 41 S_lw_aimHere (zEx 95 S_tx_skip zE0))))) zc_51 o := ⟨_, rfl⟩
  rw [← hTT]
  refine zbd_el h (fun v1 hv h => zU_c hTT hv ?_)
  rw [hTT]
  refine zR2_hp ?_ ?_ (zlp_K k_lr_readCondition_14_39_23 h hq)
  · first | with_reducible rfl | exact hA5_lr_readCondition _ _ _
  · first | with_reducible rfl | exact hF1_lr_readCondition _ _ _ _ _ _
def O_lr_readCondition_39_31 (ar fi : Nat → Nat → Int32) (m1 : Nat) (m2 : Nat) (m4 : Nat) (m5 : Nat) (t : T_lr_readCondition) : zO2 := match t with
  | (t0, t1, t2, t3, t4, t5, t6) => (none, ((zua (zua ar 32 t0) 33 t1), (zuf (zuf (zuf (zuf (zuf fi 31 7 t2) 31 8 t3) 40 2 t4) 40 3 t5) 40 4 t6), (m1, m2, 1, m4, m5)))
def M_lr_readCondition_14_39_31 (X : Nat × (Nat → Int32)) (E : zTE) (ar fi : Nat → Nat → Int32) (m1 : Nat) (m2 : Nat) (m4 : Nat) (m5 : Nat) (y : Int32) (o : zO2) (s : U_lr_readCondition_14) : Prop := match s with
  | (l3, l4, l5, b32, b33, c31_7, c31_8, c40_2, c40_3, c40_4) => zR2 X zFT E zc_51 14 [.ref 39, .ref 31, .int y, .int l3, .int l4, .int l5] [] ((zua (zua ar 32 b32) 33 b33), (zuf (zuf (zuf (zuf (zuf fi 31 7 c31_7) 31 8 c31_8) 40 2 c40_2) 40 3 c40_3) 40 4 c40_4), (m1, m2, 1, m4, m5)) o
set_option maxRecDepth 1000000 in
theorem t14_lr_readCondition_39_31 {X : Nat × (Nat → Int32)} {ar fi : Nat → Nat → Int32} {m1 m2 m4 m5 : Nat} {y : Int32} {l3 : Int32} {l4 : Int32} {l5 : Int32} {b32 : Nat → Int32} {b33 : Nat → Int32} {c31_7 : Int32} {c31_8 : Int32} {c40_2 : Int32} {c40_3 : Int32} {c40_4 : Int32} {Q_lr_readTest : Int32 → (Nat → Int32) → (Nat → Int32) → (Nat → Int32) → Int32 → Int32 → Int32 → Int32 → Int32 → Int32 → Option ((Nat → Int32) × (Nat → Int32) × Int32 × Int32 × Int32 × Int32 × Int32)} {G_tx_sign : Int32 → Int32 → Int32 → (Nat → Int32) → Bool} {W_tx_sign : Int32 → Int32 → Int32 → (Nat → Int32) → Int32} {G_lw_emit : Int32 → Int32 → Int32 → (Nat → Int32) → (Nat → Int32) → Int32 → Bool} {W_lw_emit : Int32 → Int32 → Int32 → (Nat → Int32) → (Nat → Int32) → Int32 → Int32} {A0_lw_emit : Int32 → Int32 → Int32 → (Nat → Int32) → (Nat → Int32) → Int32 → Nat → Int32} {A1_lw_emit : Int32 → Int32 → Int32 → (Nat → Int32) → (Nat → Int32) → Int32 → Nat → Int32} {F0_lw_emit : Int32 → Int32 → Int32 → (Nat → Int32) → (Nat → Int32) → Int32 → Int32} {F1_lw_emit : Int32 → Int32 → Int32 → (Nat → Int32) → (Nat → Int32) → Int32 → Int32} {Q_lw_aimHere : Int32 → (Nat → Int32) → Int32 → Option ((Nat → Int32))} {F0_tx_skip : Int32 → Int32} : zseg X zFT (zEx 52 (P_lr_readTest Q_lr_readTest) (zEx 93 (P_tx_sign G_tx_sign W_tx_sign) (zEx 40 (P_lw_emit G_lw_emit W_lw_emit A0_lw_emit A1_lw_emit F0_lw_emit F1_lw_emit) (zEx 41 (P_lw_aimHere Q_lw_aimHere) (zEx 95 (P_tx_skip F0_tx_skip) zE0))))) zc_51 (fun p => Nat.beq p 14) 400 14 [.ref 39, .ref 31, .int y, .int l3, .int l4, .int l5] [] ((zua (zua ar 32 b32) 33 b33), (zuf (zuf (zuf (zuf (zuf fi 31 7 c31_7) 31 8 c31_8) 40 2 c40_2) 40 3 c40_3) 40 4 c40_4), (m1, m2, 1, m4, m5)) = (
  bif decide (240 ≤ l5) then
   zl (Q_lw_aimHere l3 b33 c31_7) (fun v2 => zg v2.isSome (
   zl (Q_lw_aimHere l4 (((zgt v2))) c31_7) (fun v3 => zg v3.isSome (
   some (.inr (none, ((zua (zua (zua (zua ar 32 b32) 33 b33) 33 (((zgt v2)))) 33 (((zgt v3)))), (zuf (zuf (zuf (zuf (zuf fi 31 7 c31_7) 31 8 c31_8) 40 2 c40_2) 40 3 c40_3) 40 4 c40_4), (m1, m2, 1, m4, m5))))))))
  else
   zg (G_tx_sign c40_2 c40_4 (fi 40 1) (ar 1)) (
   zl (W_tx_sign c40_2 c40_4 (fi 40 1) (ar 1)) (fun v4 =>
   bif !decide (v4 = 38) then
    bif !decide (v4 = 124) then
     zl (Q_lw_aimHere l3 b33 c31_7) (fun v5 => zg v5.isSome (
     zl (Q_lw_aimHere l4 (((zgt v5))) c31_7) (fun v6 => zg v6.isSome (
     some (.inr (none, ((zua (zua (zua (zua ar 32 b32) 33 b33) 33 (((zgt v5)))) 33 (((zgt v6)))), (zuf (zuf (zuf (zuf (zuf fi 31 7 c31_7) 31 8 c31_8) 40 2 c40_2) 40 3 c40_3) 40 4 c40_4), (m1, m2, 1, m4, m5))))))))
    else
     zl (Q_lw_aimHere l3 b33 c31_7) (fun v7 => zg v7.isSome (
     zg (G_lw_emit 5 l4 c31_7 b32 (((zgt v7))) c31_8) (
     zl (W_lw_emit 5 l4 c31_7 b32 (((zgt v7))) c31_8) (fun v8 =>
     zl (A0_lw_emit 5 l4 c31_7 b32 (((zgt v7))) c31_8) (fun v9 =>
     zl (A1_lw_emit 5 l4 c31_7 b32 (((zgt v7))) c31_8) (fun v10 =>
     zl (F0_lw_emit 5 l4 c31_7 b32 (((zgt v7))) c31_8) (fun v11 =>
     zl (F1_lw_emit 5 l4 c31_7 b32 (((zgt v7))) c31_8) (fun v12 =>
     zl (F0_tx_skip c40_4) (fun v13 =>
     zl (Q_lr_readTest y (ar 1) v9 v10 v11 v12 (fi 40 1) c40_2 c40_3 v13) (fun v14 => zg v14.isSome (
     some (.inl (14, [.ref 39, .ref 31, .int y, .int (-1), .int v8, .int (l5 + 1)], [], ((zua (zua (zua (zua (zua (zua (zua ar 32 b32) 33 b33) 33 (((zgt v7)))) 32 v9) 33 v10) 32 (((zgt v14).1))) 33 (((zgt v14).2.1))), (zuf (zuf (zuf (zuf (zuf (zuf (zuf (zuf (zuf (zuf (zuf (zuf (zuf fi 31 7 c31_7) 31 8 c31_8) 40 2 c40_2) 40 3 c40_3) 40 4 c40_4) 31 7 v11) 31 8 v12) 40 4 v13) 31 7 (((zgt v14).2.2.1))) 31 8 (((zgt v14).2.2.2.1))) 40 2 (((zgt v14).2.2.2.2.1))) 40 3 (((zgt v14).2.2.2.2.2.1))) 40 4 (((zgt v14).2.2.2.2.2.2))), (m1, m2, 1, m4, m5)))))))))))))))
   else
    zg (G_lw_emit 4 l3 c31_7 b32 b33 c31_8) (
    zl (W_lw_emit 4 l3 c31_7 b32 b33 c31_8) (fun v15 =>
    zl (A0_lw_emit 4 l3 c31_7 b32 b33 c31_8) (fun v16 =>
    zl (A1_lw_emit 4 l3 c31_7 b32 b33 c31_8) (fun v17 =>
    zl (F0_lw_emit 4 l3 c31_7 b32 b33 c31_8) (fun v18 =>
    zl (F1_lw_emit 4 l3 c31_7 b32 b33 c31_8) (fun v19 =>
    zl (F0_tx_skip c40_4) (fun v20 =>
    zl (Q_lr_readTest y (ar 1) v16 v17 v18 v19 (fi 40 1) c40_2 c40_3 v20) (fun v21 => zg v21.isSome (
    some (.inl (14, [.ref 39, .ref 31, .int y, .int v15, .int l4, .int (l5 + 1)], [], ((zua (zua (zua (zua (zua (zua ar 32 b32) 33 b33) 32 v16) 33 v17) 32 (((zgt v21).1))) 33 (((zgt v21).2.1))), (zuf (zuf (zuf (zuf (zuf (zuf (zuf (zuf (zuf (zuf (zuf (zuf (zuf fi 31 7 c31_7) 31 8 c31_8) 40 2 c40_2) 40 3 c40_3) 40 4 c40_4) 31 7 v18) 31 8 v19) 40 4 v20) 31 7 (((zgt v21).2.2.1))) 31 8 (((zgt v21).2.2.2.1))) 40 2 (((zgt v21).2.2.2.2.1))) 40 3 (((zgt v21).2.2.2.2.2.1))) 40 4 (((zgt v21).2.2.2.2.2.2))), (m1, m2, 1, m4, m5))))))))))))))) : Option ((Nat × List Value × List Value × zH2) ⊕ zO2)) := by with_unfolding_all rfl
set_option maxRecDepth 20000 in
theorem k_lr_readCondition_14_39_31 {X : Nat × (Nat → Int32)} {ar fi : Nat → Nat → Int32} {m1 m2 m4 m5 : Nat} {y : Int32} {Q_lr_readCondition : Int32 → (Nat → Int32) → (Nat → Int32) → (Nat → Int32) → Int32 → Int32 → Int32 → Int32 → Int32 → Int32 → Option ((Nat → Int32) × (Nat → Int32) × Int32 × Int32 × Int32 × Int32 × Int32)} {Q_lr_readTest : Int32 → (Nat → Int32) → (Nat → Int32) → (Nat → Int32) → Int32 → Int32 → Int32 → Int32 → Int32 → Int32 → Option ((Nat → Int32) × (Nat → Int32) × Int32 × Int32 × Int32 × Int32 × Int32)} {Q_lr_readAmount : Int32 → (Nat → Int32) → (Nat → Int32) → (Nat → Int32) → Int32 → Int32 → Int32 → Int32 → Int32 → Int32 → Option ((Nat → Int32) × (Nat → Int32) × Int32 × Int32 × Int32 × Int32 × Int32)} {Q_lr_readFactor : Int32 → (Nat → Int32) → (Nat → Int32) → (Nat → Int32) → Int32 → Int32 → Int32 → Int32 → Int32 → Int32 → Option ((Nat → Int32) × (Nat → Int32) × Int32 × Int32 × Int32 × Int32 × Int32)} {o : zO2} : ∀ (s : U_lr_readCondition_14) (q : U_lr_readCondition_14 ⊕ T_lr_readCondition), f_lr_readCondition_14 Q_lr_readCondition Q_lr_readTest Q_lr_readAmount Q_lr_readFactor y (ar 1) (fi 40 1) s = some q → zq (M_lr_readCondition_14_39_31 X (zEx 52 (P_lr_readTest Q_lr_readTest) (zEx 93 S_tx_sign (zEx 40 S_lw_emit (zEx 41 S_lw_aimHere (zEx 95 S_tx_skip zE0))))) ar fi m1 m2 m4 m5 y o) (fun t => O_lr_readCondition_39_31 ar fi m1 m2 m4 m5 t = o) q → M_lr_readCondition_14_39_31 X (zEx 52 (P_lr_readTest Q_lr_readTest) (zEx 93 S_tx_sign (zEx 40 S_lw_emit (zEx 41 S_lw_aimHere (zEx 95 S_tx_skip zE0))))) ar fi m1 m2 m4 m5 y o s := by
  intro s q h hq
  obtain ⟨l3, l4, l5, b32, b33, c31_7, c31_8, c40_2, c40_3, c40_4⟩ := s
  have h : b_lr_readCondition_14 Q_lr_readCondition Q_lr_readTest Q_lr_readAmount Q_lr_readFactor y (ar 1) (fi 40 1) l3 l4 l5 b32 b33 c31_7 c31_8 c40_2 c40_3 c40_4 = some q := h
  unfold b_lr_readCondition_14 at h
  show zR2 X zFT (zEx 52 (P_lr_readTest Q_lr_readTest) (zEx 93 S_tx_sign (zEx 40 S_lw_emit (zEx 41 S_lw_aimHere (zEx 95 S_tx_skip zE0))))) zc_51 14 [.ref 39, .ref 31, .int y, .int l3, .int l4, .int l5] [] ((zua (zua ar 32 b32) 33 b33), (zuf (zuf (zuf (zuf (zuf fi 31 7 c31_7) 31 8 c31_8) 40 2 c40_2) 40 3 c40_3) 40 4 c40_4), (m1, m2, 1, m4, m5)) o
  refine zT_seg t14_lr_readCondition_39_31 ?_
  obtain ⟨TT, hTT⟩ : ∃ T, T = zT X zFT (zEx 52 (P_lr_readTest Q_lr_readTest) (zEx 93 S_tx_sign (zEx 40 S_lw_emit (zEx 41 S_lw_aimHere (zEx 95 S_tx_skip zE0))))) zc_51 o := ⟨_, rfl⟩
  rw [← hTT]
  refine zb_el h (fun hb h => zU_t hTT hb ?_) (fun hb h => zU_f hTT hb ?_)
  · refine zbd_el h (fun v2 hv h => zU_c hTT hv ?_)
    refine zbd_el h (fun v3 hv h => zU_c hTT hv ?_)
    rw [hTT]
    have hz := zsi h hq
    refine (zO_mk ?_ ?_).trans hz
    · first | with_reducible rfl | exact hA6_lr_readCondition _ _ _ _ _
    · first | with_reducible rfl | exact hF7_lr_readCondition _ _ _ _ _ _
  · refine zg_el h (fun hg h => zU_g hTT hg ?_)
    refine zl_el h (fun h => zU_l hTT ?_)
    refine zb_el h (fun hb h => zU_t hTT hb ?_) (fun hb h => zU_f hTT hb ?_)
    · refine zb_el h (fun hb h => zU_t hTT hb ?_) (fun hb h => zU_f hTT hb ?_)
      · refine zbd_el h (fun v5 hv h => zU_c hTT hv ?_)
        refine zbd_el h (fun v6 hv h => zU_c hTT hv ?_)
        rw [hTT]
        have hz := zsi h hq
        refine (zO_mk ?_ ?_).trans hz
        · first | with_reducible rfl | exact hA6_lr_readCondition _ _ _ _ _
        · first | with_reducible rfl | exact hF7_lr_readCondition _ _ _ _ _ _
      · refine zbd_el h (fun v7 hv h => zU_c hTT hv ?_)
        refine zg_el h (fun hg h => zU_g hTT hg ?_)
        refine zl_el h (fun h => zU_l hTT ?_)
        refine zl_el h (fun h => zU_l hTT ?_)
        refine zl_el h (fun h => zU_l hTT ?_)
        refine zl_el h (fun h => zU_l hTT ?_)
        refine zl_el h (fun h => zU_l hTT ?_)
        refine zl_el h (fun h => zU_l hTT ?_)
        refine zbd_el h (fun v14 hv h => zU_c hTT hv ?_)
        rw [hTT]
        have hz := zsi h hq
        refine zR2_hp ?_ ?_ hz
        · first | with_reducible rfl | exact hA8_lr_readCondition _ _ _ _ _ _ _ _
        · first | with_reducible rfl | exact hF9_lr_readCondition _ _ _ _ _ _ _ _ _ _ _ _ _ _
    · refine zg_el h (fun hg h => zU_g hTT hg ?_)
      refine zl_el h (fun h => zU_l hTT ?_)
      refine zl_el h (fun h => zU_l hTT ?_)
      refine zl_el h (fun h => zU_l hTT ?_)
      refine zl_el h (fun h => zU_l hTT ?_)
      refine zl_el h (fun h => zU_l hTT ?_)
      refine zl_el h (fun h => zU_l hTT ?_)
      refine zbd_el h (fun v21 hv h => zU_c hTT hv ?_)
      rw [hTT]
      have hz := zsi h hq
      refine zR2_hp ?_ ?_ hz
      · first | with_reducible rfl | exact hA10_lr_readCondition _ _ _ _ _ _ _
      · first | with_reducible rfl | exact hF9_lr_readCondition _ _ _ _ _ _ _ _ _ _ _ _ _ _
set_option maxRecDepth 1000000 in
theorem t_lr_readCondition_39_31 {X : Nat × (Nat → Int32)} {ar fi : Nat → Nat → Int32} {m1 m2 m4 m5 : Nat} {y : Int32} {Q_lr_readTest : Int32 → (Nat → Int32) → (Nat → Int32) → (Nat → Int32) → Int32 → Int32 → Int32 → Int32 → Int32 → Int32 → Option ((Nat → Int32) × (Nat → Int32) × Int32 × Int32 × Int32 × Int32 × Int32)} {G_tx_sign : Int32 → Int32 → Int32 → (Nat → Int32) → Bool} {W_tx_sign : Int32 → Int32 → Int32 → (Nat → Int32) → Int32} {G_lw_emit : Int32 → Int32 → Int32 → (Nat → Int32) → (Nat → Int32) → Int32 → Bool} {W_lw_emit : Int32 → Int32 → Int32 → (Nat → Int32) → (Nat → Int32) → Int32 → Int32} {A0_lw_emit : Int32 → Int32 → Int32 → (Nat → Int32) → (Nat → Int32) → Int32 → Nat → Int32} {A1_lw_emit : Int32 → Int32 → Int32 → (Nat → Int32) → (Nat → Int32) → Int32 → Nat → Int32} {F0_lw_emit : Int32 → Int32 → Int32 → (Nat → Int32) → (Nat → Int32) → Int32 → Int32} {F1_lw_emit : Int32 → Int32 → Int32 → (Nat → Int32) → (Nat → Int32) → Int32 → Int32} {Q_lw_aimHere : Int32 → (Nat → Int32) → Int32 → Option ((Nat → Int32))} {F0_tx_skip : Int32 → Int32} : zseg X zFT (zEx 52 (P_lr_readTest Q_lr_readTest) (zEx 93 (P_tx_sign G_tx_sign W_tx_sign) (zEx 40 (P_lw_emit G_lw_emit W_lw_emit A0_lw_emit A1_lw_emit F0_lw_emit F1_lw_emit) (zEx 41 (P_lw_aimHere Q_lw_aimHere) (zEx 95 (P_tx_skip F0_tx_skip) zE0))))) zc_51 (fun p => Nat.beq p 14) 400 0 [.ref 39, .ref 31, .int y] [] (ar, fi, (m1, m2, 1, m4, m5)) = (
  zl (Q_lr_readTest y (ar 1) (ar 32) (ar 33) (fi 31 7) (fi 31 8) (fi 40 1) (fi 40 2) (fi 40 3) (fi 40 4)) (fun v1 => zg v1.isSome (
  some (.inl (14, [.ref 39, .ref 31, .int y, .int (-1), .int (-1), .int 0], [], ((zua (zua ar 32 (((zgt v1).1))) 33 (((zgt v1).2.1))), (zuf (zuf (zuf (zuf (zuf fi 31 7 (((zgt v1).2.2.1))) 31 8 (((zgt v1).2.2.2.1))) 40 2 (((zgt v1).2.2.2.2.1))) 40 3 (((zgt v1).2.2.2.2.2.1))) 40 4 (((zgt v1).2.2.2.2.2.2))), (m1, m2, 1, m4, m5)))))) : Option ((Nat × List Value × List Value × zH2) ⊕ zO2)) := by with_unfolding_all rfl
set_option maxRecDepth 20000 in
theorem e_lr_readCondition_39_31 {X : Nat × (Nat → Int32)} {ar fi : Nat → Nat → Int32} {m1 m2 m4 m5 : Nat} {y : Int32} {Q_lr_readCondition : Int32 → (Nat → Int32) → (Nat → Int32) → (Nat → Int32) → Int32 → Int32 → Int32 → Int32 → Int32 → Int32 → Option ((Nat → Int32) × (Nat → Int32) × Int32 × Int32 × Int32 × Int32 × Int32)} {Q_lr_readTest : Int32 → (Nat → Int32) → (Nat → Int32) → (Nat → Int32) → Int32 → Int32 → Int32 → Int32 → Int32 → Int32 → Option ((Nat → Int32) × (Nat → Int32) × Int32 × Int32 × Int32 × Int32 × Int32)} {Q_lr_readAmount : Int32 → (Nat → Int32) → (Nat → Int32) → (Nat → Int32) → Int32 → Int32 → Int32 → Int32 → Int32 → Int32 → Option ((Nat → Int32) × (Nat → Int32) × Int32 × Int32 × Int32 × Int32 × Int32)} {Q_lr_readFactor : Int32 → (Nat → Int32) → (Nat → Int32) → (Nat → Int32) → Int32 → Int32 → Int32 → Int32 → Int32 → Int32 → Option ((Nat → Int32) × (Nat → Int32) × Int32 × Int32 × Int32 × Int32 × Int32)} {o : zO2} : ∀ (q : T_lr_readCondition), qG_lr_readCondition Q_lr_readCondition Q_lr_readTest Q_lr_readAmount Q_lr_readFactor y (ar 1) (ar 32) (ar 33) (fi 31 7) (fi 31 8) (fi 40 1) (fi 40 2) (fi 40 3) (fi 40 4) = some q → (fun t => O_lr_readCondition_39_31 ar fi m1 m2 m4 m5 t = o) q → zR2 X zFT (zEx 52 (P_lr_readTest Q_lr_readTest) (zEx 93 S_tx_sign (zEx 40 S_lw_emit (zEx 41 S_lw_aimHere (zEx 95 S_tx_skip zE0))))) zc_51 0 [.ref 39, .ref 31, .int y] [] (ar, fi, (m1, m2, 1, m4, m5)) o := by
  intro q h hq
  unfold qG_lr_readCondition at h
  refine zT_seg t_lr_readCondition_39_31 ?_
  obtain ⟨TT, hTT⟩ : ∃ T, T = zT X zFT (zEx 52 (P_lr_readTest Q_lr_readTest) (zEx 93 S_tx_sign (zEx 40 S_lw_emit (zEx 41 S_lw_aimHere (zEx 95 S_tx_skip zE0))))) zc_51 o := ⟨_, rfl⟩
  rw [← hTT]
  refine zbd_el h (fun v1 hv h => zU_c hTT hv ?_)
  rw [hTT]
  refine zR2_hp ?_ ?_ (zlp_K k_lr_readCondition_14_39_31 h hq)
  · first | with_reducible rfl | exact hA11_lr_readCondition _ _ _
  · first | with_reducible rfl | exact hF7_lr_readCondition _ _ _ _ _ _
