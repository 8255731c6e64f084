abbrev T_md_orders : Type := Int32 × (Nat → Int32) × (Nat → Int32) × (Nat → Int32) × (Nat → Int32) × Int32 × Int32 × Int32 × Int32 × Int32 × Int32 × Int32 × Int32 × Int32 × Int32
abbrev U_md_orders_43 : Type := Int32 × (Nat → Int32)
abbrev U_md_orders_72 : Type := Int32 × (Nat → Int32) × (Nat → Int32) × Int32 × Int32 × Int32 × Int32 × Int32 × Int32
abbrev U_md_orders_139 : Type := Int32 × (Nat → Int32)
def b_md_orders_139 (b65 : Nat → Int32) (b66 : Nat → Int32) (b69 : Nat → Int32) (c64_6 : Int32) (c64_7 : Int32) (c64_8 : Int32) (c64_9 : Int32) (c64_10 : Int32) (c64_12 : Int32) (c64_14 : Int32) (c64_30 : Int32) (c64_31 : Int32) (c64_32 : Int32) (l3 : Int32) (b68 : Nat → Int32) : Option (U_md_orders_139 ⊕ T_md_orders) :=
  bif decide (96 ≤ l3) then
   some (.inr (c64_9, b65, b66, b68, b69, c64_6, c64_7, c64_8, c64_9, c64_10, c64_12, c64_14, c64_30, c64_31, c64_32))
  else
   zg (zin l3 96) (
   zg (zin l3 96) (
   some (.inl (l3 + 1, (zup b68 (l3.toNatClampNeg) (b69 (l3.toNatClampNeg)))))))
def f_md_orders_139 (b65 : Nat → Int32) (b66 : Nat → Int32) (b69 : Nat → Int32) (c64_6 : Int32) (c64_7 : Int32) (c64_8 : Int32) (c64_9 : Int32) (c64_10 : Int32) (c64_12 : Int32) (c64_14 : Int32) (c64_30 : Int32) (c64_31 : Int32) (c64_32 : Int32) : U_md_orders_139 → Option (U_md_orders_139 ⊕ T_md_orders) := fun s => b_md_orders_139 b65 b66 b69 c64_6 c64_7 c64_8 c64_9 c64_10 c64_12 c64_14 c64_30 c64_31 c64_32 s.1 s.2
noncomputable def l_md_orders_139 (b65 : Nat → Int32) (b66 : Nat → Int32) (b69 : Nat → Int32) (c64_6 : Int32) (c64_7 : Int32) (c64_8 : Int32) (c64_9 : Int32) (c64_10 : Int32) (c64_12 : Int32) (c64_14 : Int32) (c64_30 : Int32) (c64_31 : Int32) (c64_32 : Int32) (l3 : Int32) (b68 : Nat → Int32) : Option T_md_orders := zlp (f_md_orders_139 b65 b66 b69 c64_6 c64_7 c64_8 c64_9 c64_10 c64_12 c64_14 c64_30 c64_31 c64_32) (l3, b68)
noncomputable def b_md_orders_72 (a70 : Nat → Int32) (b66 : Nat → Int32) (b69 : Nat → Int32) (c64_8 : Int32) (c64_12 : Int32) (c64_14 : Int32) (l2 : Int32) (b65 : Nat → Int32) (b68 : Nat → Int32) (c64_7 : Int32) (c64_9 : Int32) (c64_10 : Int32) (c64_30 : Int32) (c64_31 : Int32) (c64_32 : Int32) : Option (U_md_orders_72 ⊕ T_md_orders) :=
  bif decide (l2 = 0) then
   bif decide (l2 = 0) then
    zl (a0_md_copies b66 b65) (fun v8 =>
    zbd (l_md_orders_139 v8 b66 b69 0 c64_7 c64_8 c64_9 c64_10 c64_12 c64_14 c64_30 c64_31 c64_32 0 b68) (fun k => some (.inr k)))
   else
    some (.inr (c64_30, b65, b66, b68, b69, 0, c64_7, c64_8, c64_9, c64_10, c64_12, c64_14, c64_30, c64_31, c64_32))
  else
   bif decide (c64_8 ≤ c64_7) then
    bif decide (l2 = 0) then
     zl (a0_md_copies b66 b65) (fun v9 =>
     zbd (l_md_orders_139 v9 b66 b69 0 c64_7 c64_8 c64_9 c64_10 c64_12 c64_14 c64_30 c64_31 c64_32 0 b68) (fun k => some (.inr k)))
    else
     some (.inr (c64_30, b65, b66, b68, b69, 0, c64_7, c64_8, c64_9, c64_10, c64_12, c64_14, c64_30, c64_31, c64_32))
   else
    zg (g_md_takes 59 c64_8 c64_7 a70 c64_9) (
    zl (w_md_takes 59 c64_8 c64_7 a70 c64_9) (fun v10 =>
    zl (f0_md_takes 59 c64_8 c64_7 a70 c64_9) (fun v11 =>
    zl (f1_md_takes 59 c64_8 c64_7 a70 c64_9) (fun v12 =>
    bif decide (v10 = 0) then
     some (.inl (0, b65, b68, v11, v12, c64_10, c64_30, c64_31, c64_32))
    else
     zbd (q_md_readsLine b65 b68 a70 v11 c64_8 v12 c64_10 c64_30 c64_31 c64_32) (fun v13 =>
     bif decide ((v13.1) = 0) then
      some (.inl (0, ((v13.2.1)), ((v13.2.2.1)), (v13.2.2.2.1), (v13.2.2.2.2.1), (v13.2.2.2.2.2.1), (v13.2.2.2.2.2.2.1), (v13.2.2.2.2.2.2.2.1), (v13.2.2.2.2.2.2.2.2)))
     else
      some (.inl (1, ((v13.2.1)), ((v13.2.2.1)), (v13.2.2.2.1), (v13.2.2.2.2.1), (v13.2.2.2.2.2.1), (v13.2.2.2.2.2.2.1), (v13.2.2.2.2.2.2.2.1), (v13.2.2.2.2.2.2.2.2))))))))
noncomputable def f_md_orders_72 (a70 : Nat → Int32) (b66 : Nat → Int32) (b69 : Nat → Int32) (c64_8 : Int32) (c64_12 : Int32) (c64_14 : Int32) : U_md_orders_72 → Option (U_md_orders_72 ⊕ T_md_orders) := fun s => b_md_orders_72 a70 b66 b69 c64_8 c64_12 c64_14 s.1 s.2.1 s.2.2.1 s.2.2.2.1 s.2.2.2.2.1 s.2.2.2.2.2.1 s.2.2.2.2.2.2.1 s.2.2.2.2.2.2.2.1 s.2.2.2.2.2.2.2.2
noncomputable def l_md_orders_72 (a70 : Nat → Int32) (b66 : Nat → Int32) (b69 : Nat → Int32) (c64_8 : Int32) (c64_12 : Int32) (c64_14 : Int32) (l2 : Int32) (b65 : Nat → Int32) (b68 : Nat → Int32) (c64_7 : Int32) (c64_9 : Int32) (c64_10 : Int32) (c64_30 : Int32) (c64_31 : Int32) (c64_32 : Int32) : Option T_md_orders := zlp (f_md_orders_72 a70 b66 b69 c64_8 c64_12 c64_14) (l2, b65, b68, c64_7, c64_9, c64_10, c64_30, c64_31, c64_32)
noncomputable def b_md_orders_43 (a70 : Nat → Int32) (b65 : Nat → Int32) (b66 : Nat → Int32) (b68 : Nat → Int32) (c64_7 : Int32) (c64_8 : Int32) (c64_9 : Int32) (c64_10 : Int32) (c64_12 : Int32) (c64_14 : Int32) (c64_30 : Int32) (c64_31 : Int32) (c64_32 : Int32) (l2 : Int32) (b69 : Nat → Int32) : Option (U_md_orders_43 ⊕ T_md_orders) :=
  bif decide (96 ≤ l2) then
   zbd (q_md_readsLine b65 b68 a70 c64_7 c64_8 c64_9 c64_10 c64_30 c64_31 c64_32) (fun v7 =>
   zbd (l_md_orders_72 a70 b66 b69 c64_8 c64_12 c64_14 ((v7.1)) ((v7.2.1)) ((v7.2.2.1)) ((v7.2.2.2.1)) ((v7.2.2.2.2.1)) ((v7.2.2.2.2.2.1)) ((v7.2.2.2.2.2.2.1)) ((v7.2.2.2.2.2.2.2.1)) ((v7.2.2.2.2.2.2.2.2))) (fun k => some (.inr k)))
  else
   zg (zin l2 96) (
   zg (zin l2 96) (
   some (.inl (l2 + 1, (zup b69 (l2.toNatClampNeg) (b68 (l2.toNatClampNeg)))))))
noncomputable def f_md_orders_43 (a70 : Nat → Int32) (b65 : Nat → Int32) (b66 : Nat → Int32) (b68 : Nat → Int32) (c64_7 : Int32) (c64_8 : Int32) (c64_9 : Int32) (c64_10 : Int32) (c64_12 : Int32) (c64_14 : Int32) (c64_30 : Int32) (c64_31 : Int32) (c64_32 : Int32) : U_md_orders_43 → Option (U_md_orders_43 ⊕ T_md_orders) := fun s => b_md_orders_43 a70 b65 b66 b68 c64_7 c64_8 c64_9 c64_10 c64_12 c64_14 c64_30 c64_31 c64_32 s.1 s.2
noncomputable def l_md_orders_43 (a70 : Nat → Int32) (b65 : Nat → Int32) (b66 : Nat → Int32) (b68 : Nat → Int32) (c64_7 : Int32) (c64_8 : Int32) (c64_9 : Int32) (c64_10 : Int32) (c64_12 : Int32) (c64_14 : Int32) (c64_30 : Int32) (c64_31 : Int32) (c64_32 : Int32) (l2 : Int32) (b69 : Nat → Int32) : Option T_md_orders := zlp (f_md_orders_43 a70 b65 b66 b68 c64_7 c64_8 c64_9 c64_10 c64_12 c64_14 c64_30 c64_31 c64_32) (l2, b69)
noncomputable def q_md_orders (x : Int32) (a65 : Nat → Int32) (a66 : Nat → Int32) (a68 : Nat → Int32) (a69 : Nat → Int32) (a70 : Nat → Int32) (f64_6 : Int32) (f64_7 : Int32) (f64_8 : Int32) (f64_9 : Int32) (f64_10 : Int32) (f64_12 : Int32) (f64_14 : Int32) (f64_30 : Int32) (f64_31 : Int32) (f64_32 : Int32) : Option T_md_orders :=
  zl (w_md_in x 1 120) (fun v1 =>
  bif decide (v1 = 0) then
   some ((-1), a65, a66, a68, a69, f64_6, f64_7, f64_8, f64_9, f64_10, f64_12, f64_14, f64_30, f64_31, f64_32)
  else
   bif decide (x ≤ f64_6) then
    zl (f0_md_beginsText x) (fun v2 =>
    zl (f1_md_beginsText x) (fun v3 =>
    zl (f2_md_beginsText x) (fun v4 =>
    zl (f3_md_beginsText x) (fun v5 =>
    zl (a0_md_copies a65 a66) (fun v6 =>
    l_md_orders_43 a70 a65 v6 a68 v2 v3 (f64_9) (f64_10) v4 v5 0 (f64_31) (f64_32) 0 a69)))))
   else
    some ((-1), a65, a66, a68, a69, f64_6, f64_7, f64_8, f64_9, f64_10, f64_12, f64_14, f64_30, f64_31, f64_32))
def P_md_orders (Q : Int32 → (Nat → Int32) → (Nat → Int32) → (Nat → Int32) → (Nat → Int32) → (Nat → Int32) → Int32 → Int32 → Int32 → Int32 → Int32 → Int32 → Int32 → Int32 → Int32 → Int32 → Option (Int32 × (Nat → Int32) × (Nat → Int32) × (Nat → Int32) × (Nat → Int32) × Int32 × Int32 × Int32 × Int32 × Int32 × Int32 × Int32 × Int32 × Int32 × Int32)) : zSp := fun as g => match as with
  | [.ref a, .int x] => bif Nat.beq a 64 then zpe (Q x (g.1 65) (g.1 66) (g.1 68) (g.1 69) (g.1 70) (g.2.1 64 6) (g.2.1 64 7) (g.2.1 64 8) (g.2.1 64 9) (g.2.1 64 10) (g.2.1 64 12) (g.2.1 64 14) (g.2.1 64 30) (g.2.1 64 31) (g.2.1 64 32)) (fun t => (some (.int (t.1)), ((zua (zua (zua (zua g.1 65 t.2.1) 66 t.2.2.1) 68 t.2.2.2.1) 69 t.2.2.2.2.1), (zuf (zuf (zuf (zuf (zuf (zuf (zuf (zuf (zuf (zuf g.2.1 64 6 t.2.2.2.2.2.1) 64 7 t.2.2.2.2.2.2.1) 64 8 t.2.2.2.2.2.2.2.1) 64 9 t.2.2.2.2.2.2.2.2.1) 64 10 t.2.2.2.2.2.2.2.2.2.1) 64 12 t.2.2.2.2.2.2.2.2.2.2.1) 64 14 t.2.2.2.2.2.2.2.2.2.2.2.1) 64 30 t.2.2.2.2.2.2.2.2.2.2.2.2.1) 64 31 t.2.2.2.2.2.2.2.2.2.2.2.2.2.1) 64 32 t.2.2.2.2.2.2.2.2.2.2.2.2.2.2), g.2.2))) else none
  | _ => none
noncomputable abbrev S_md_orders : zSp := P_md_orders q_md_orders
theorem hF13_md_orders (F : Nat → Nat → Int32) (w0 w1 w2 w3 w4 : Int32) : (zuf (zuf (zuf (zuf (zuf F 64 7 w0) 64 8 w1) 64 12 w2) 64 14 w3) 64 30 w4) = (zuf (zuf (zuf (zuf (zuf (zuf (zuf (zuf (zuf (zuf F 64 6 (F 64 6)) 64 7 w0) 64 8 w1) 64 9 (F 64 9)) 64 10 (F 64 10)) 64 12 w2) 64 14 w3) 64 30 w4) 64 31 (F 64 31)) 64 32 (F 64 32)) := zufk_ix F [((64, 7), w0), ((64, 8), w1), ((64, 12), w2), ((64, 14), w3), ((64, 30), w4)] [((64, 6), none), ((64, 7), some 0), ((64, 8), some 1), ((64, 9), none), ((64, 10), none), ((64, 12), some 2), ((64, 14), some 3), ((64, 30), some 4), ((64, 31), none), ((64, 32), none)] rfl
theorem hA12_md_orders (F : Nat → Nat → Int32) (w0 : Nat → Int32) : (zua F 66 w0) = (zua (zua (zua (zua F 65 (F 65)) 66 w0) 68 (F 68)) 69 (F 69)) := zuak_ix F [(66, w0)] [(65, none), (66, some 0), (68, none), (69, none)] rfl
theorem hF11_md_orders (F : Nat → Nat → Int32) : F = (zuf (zuf (zuf (zuf (zuf (zuf (zuf (zuf (zuf (zuf F 64 6 (F 64 6)) 64 7 (F 64 7)) 64 8 (F 64 8)) 64 9 (F 64 9)) 64 10 (F 64 10)) 64 12 (F 64 12)) 64 14 (F 64 14)) 64 30 (F 64 30)) 64 31 (F 64 31)) 64 32 (F 64 32)) := zufk_ix F [] [((64, 6), none), ((64, 7), none), ((64, 8), none), ((64, 9), none), ((64, 10), none), ((64, 12), none), ((64, 14), none), ((64, 30), none), ((64, 31), none), ((64, 32), none)] rfl
theorem hA10_md_orders (F : Nat → Nat → Int32) : F = (zua (zua (zua (zua F 65 (F 65)) 66 (F 66)) 68 (F 68)) 69 (F 69)) := zuak_ix F [] [(65, none), (66, none), (68, none), (69, none)] rfl
theorem hA9_md_orders (F : Nat → Nat → Int32) (w0 w1 w2 w3 w4 : Nat → Int32) : (zua (zua (zua (zua (zua F 65 w0) 66 w1) 68 w2) 69 w3) 69 w4) = (zua (zua (zua (zua F 65 w0) 66 w1) 68 w2) 69 w4) := zuak_ix F [(65, w0), (66, w1), (68, w2), (69, w3), (69, w4)] [(65, some 0), (66, some 1), (68, some 2), (69, some 4)] rfl
theorem hF8_md_orders (F : Nat → Nat → Int32) (w0 w1 w2 w3 w4 w5 w6 w7 w8 w9 w10 w11 w12 w13 w14 w15 : Int32) : (zuf (zuf (zuf (zuf (zuf (zuf (zuf (zuf (zuf (zuf (zuf (zuf (zuf (zuf (zuf (zuf F 64 6 w0) 64 7 w1) 64 8 w2) 64 9 w3) 64 10 w4) 64 12 w5) 64 14 w6) 64 30 w7) 64 31 w8) 64 32 w9) 64 7 w10) 64 9 w11) 64 10 w12) 64 30 w13) 64 31 w14) 64 32 w15) = (zuf (zuf (zuf (zuf (zuf (zuf (zuf (zuf (zuf (zuf F 64 6 w0) 64 7 w10) 64 8 w2) 64 9 w11) 64 10 w12) 64 12 w5) 64 14 w6) 64 30 w13) 64 31 w14) 64 32 w15) := zufk_ix F [((64, 6), w0), ((64, 7), w1), ((64, 8), w2), ((64, 9), w3), ((64, 10), w4), ((64, 12), w5), ((64, 14), w6), ((64, 30), w7), ((64, 31), w8), ((64, 32), w9), ((64, 7), w10), ((64, 9), w11), ((64, 10), w12), ((64, 30), w13), ((64, 31), w14), ((64, 32), w15)] [((64, 6), some 0), ((64, 7), some 10), ((64, 8), some 2), ((64, 9), some 11), ((64, 10), some 12), ((64, 12), some 5), ((64, 14), some 6), ((64, 30), some 13), ((64, 31), some 14), ((64, 32), some 15)] rfl
theorem hF7_md_orders (F : Nat → Nat → Int32) (w0 w1 w2 w3 w4 w5 w6 w7 w8 w9 w10 w11 w12 w13 w14 w15 w16 w17 : Int32) : (zuf (zuf (zuf (zuf (zuf (zuf (zuf (zuf (zuf (zuf (zuf (zuf (zuf (zuf (zuf (zuf (zuf (zuf F 64 6 w0) 64 7 w1) 64 8 w2) 64 9 w3) 64 10 w4) 64 12 w5) 64 14 w6) 64 30 w7) 64 31 w8) 64 32 w9) 64 7 w10) 64 9 w11) 64 7 w12) 64 9 w13) 64 10 w14) 64 30 w15) 64 31 w16) 64 32 w17) = (zuf (zuf (zuf (zuf (zuf (zuf (zuf (zuf (zuf (zuf F 64 6 w0) 64 7 w12) 64 8 w2) 64 9 w13) 64 10 w14) 64 12 w5) 64 14 w6) 64 30 w15) 64 31 w16) 64 32 w17) := zufk_ix F [((64, 6), w0), ((64, 7), w1), ((64, 8), w2), ((64, 9), w3), ((64, 10), w4), ((64, 12), w5), ((64, 14), w6), ((64, 30), w7), ((64, 31), w8), ((64, 32), w9), ((64, 7), w10), ((64, 9), w11), ((64, 7), w12), ((64, 9), w13), ((64, 10), w14), ((64, 30), w15), ((64, 31), w16), ((64, 32), w17)] [((64, 6), some 0), ((64, 7), some 12), ((64, 8), some 2), ((64, 9), some 13), ((64, 10), some 14), ((64, 12), some 5), ((64, 14), some 6), ((64, 30), some 15), ((64, 31), some 16), ((64, 32), some 17)] rfl
theorem hA6_md_orders (F : Nat → Nat → Int32) (w0 w1 w2 w3 w4 w5 : Nat → Int32) : (zua (zua (zua (zua (zua (zua F 65 w0) 66 w1) 68 w2) 69 w3) 65 w4) 68 w5) = (zua (zua (zua (zua F 65 w4) 66 w1) 68 w5) 69 w3) := zuak_ix F [(65, w0), (66, w1), (68, w2), (69, w3), (65, w4), (68, w5)] [(65, some 4), (66, some 1), (68, some 5), (69, some 3)] rfl
theorem hF5_md_orders (F : Nat → Nat → Int32) (w0 w1 w2 w3 w4 w5 w6 w7 w8 w9 w10 w11 : Int32) : (zuf (zuf (zuf (zuf (zuf (zuf (zuf (zuf (zuf (zuf (zuf (zuf F 64 6 w0) 64 7 w1) 64 8 w2) 64 9 w3) 64 10 w4) 64 12 w5) 64 14 w6) 64 30 w7) 64 31 w8) 64 32 w9) 64 7 w10) 64 9 w11) = (zuf (zuf (zuf (zuf (zuf (zuf (zuf (zuf (zuf (zuf F 64 6 w0) 64 7 w10) 64 8 w2) 64 9 w11) 64 10 w4) 64 12 w5) 64 14 w6) 64 30 w7) 64 31 w8) 64 32 w9) := zufk_ix F [((64, 6), w0), ((64, 7), w1), ((64, 8), w2), ((64, 9), w3), ((64, 10), w4), ((64, 12), w5), ((64, 14), w6), ((64, 30), w7), ((64, 31), w8), ((64, 32), w9), ((64, 7), w10), ((64, 9), w11)] [((64, 6), some 0), ((64, 7), some 10), ((64, 8), some 2), ((64, 9), some 11), ((64, 10), some 4), ((64, 12), some 5), ((64, 14), some 6), ((64, 30), some 7), ((64, 31), some 8), ((64, 32), some 9)] rfl
theorem hF4_md_orders (F : Nat → Nat → Int32) (w0 w1 w2 w3 w4 w5 w6 w7 w8 w9 w10 : Int32) : (zuf (zuf (zuf (zuf (zuf (zuf (zuf (zuf (zuf (zuf (zuf F 64 6 w0) 64 7 w1) 64 8 w2) 64 9 w3) 64 10 w4) 64 12 w5) 64 14 w6) 64 30 w7) 64 31 w8) 64 32 w9) 64 6 w10) = (zuf (zuf (zuf (zuf (zuf (zuf (zuf (zuf (zuf (zuf F 64 6 w10) 64 7 w1) 64 8 w2) 64 9 w3) 64 10 w4) 64 12 w5) 64 14 w6) 64 30 w7) 64 31 w8) 64 32 w9) := zufk_ix F [((64, 6), w0), ((64, 7), w1), ((64, 8), w2), ((64, 9), w3), ((64, 10), w4), ((64, 12), w5), ((64, 14), w6), ((64, 30), w7), ((64, 31), w8), ((64, 32), w9), ((64, 6), w10)] [((64, 6), some 10), ((64, 7), some 1), ((64, 8), some 2), ((64, 9), some 3), ((64, 10), some 4), ((64, 12), some 5), ((64, 14), some 6), ((64, 30), some 7), ((64, 31), some 8), ((64, 32), some 9)] rfl
theorem hA3_md_orders (F : Nat → Nat → Int32) (w0 w1 w2 w3 w4 : Nat → Int32) : (zua (zua (zua (zua (zua F 65 w0) 66 w1) 68 w2) 69 w3) 65 w4) = (zua (zua (zua (zua F 65 w4) 66 w1) 68 w2) 69 w3) := zuak_ix F [(65, w0), (66, w1), (68, w2), (69, w3), (65, w4)] [(65, some 4), (66, some 1), (68, some 2), (69, some 3)] rfl
theorem hA2_md_orders (F : Nat → Nat → Int32) (w0 w1 w2 w3 w4 : Nat → Int32) : (zua (zua (zua (zua (zua F 65 w0) 66 w1) 68 w2) 69 w3) 68 w4) = (zua (zua (zua (zua F 65 w0) 66 w1) 68 w4) 69 w3) := zuak_ix F [(65, w0), (66, w1), (68, w2), (69, w3), (68, w4)] [(65, some 0), (66, some 1), (68, some 4), (69, some 3)] rfl
theorem hF1_md_orders (F : Nat → Nat → Int32) (w0 w1 w2 w3 w4 w5 w6 w7 w8 w9 : Int32) : (zuf (zuf (zuf (zuf (zuf (zuf (zuf (zuf (zuf (zuf F 64 6 w0) 64 7 w1) 64 8 w2) 64 9 w3) 64 10 w4) 64 12 w5) 64 14 w6) 64 30 w7) 64 31 w8) 64 32 w9) = (zuf (zuf (zuf (zuf (zuf (zuf (zuf (zuf (zuf (zuf F 64 6 w0) 64 7 w1) 64 8 w2) 64 9 w3) 64 10 w4) 64 12 w5) 64 14 w6) 64 30 w7) 64 31 w8) 64 32 w9) := zufk_ix F [((64, 6), w0), ((64, 7), w1), ((64, 8), w2), ((64, 9), w3), ((64, 10), w4), ((64, 12), w5), ((64, 14), w6), ((64, 30), w7), ((64, 31), w8), ((64, 32), w9)] [((64, 6), some 0), ((64, 7), some 1), ((64, 8), some 2), ((64, 9), some 3), ((64, 10), some 4), ((64, 12), some 5), ((64, 14), some 6), ((64, 30), some 7), ((64, 31), some 8), ((64, 32), some 9)] rfl
theorem hA0_md_orders (F : Nat → Nat → Int32) (w0 w1 w2 w3 : Nat → Int32) : (zua (zua (zua (zua F 65 w0) 66 w1) 68 w2) 69 w3) = (zua (zua (zua (zua F 65 w0) 66 w1) 68 w2) 69 w3) := zuak_ix F [(65, w0), (66, w1), (68, w2), (69, w3)] [(65, some 0), (66, some 1), (68, some 2), (69, some 3)] rfl
def O_md_orders (ar fi : Nat → Nat → Int32) (m1 : Nat) (m2 : Nat) (m3 : Nat) (m4 : Nat) (m5 : Nat) (t : T_md_orders) : zO2 := match t with
  | (t0, t1, t2, t3, t4, t5, t6, t7, t8, t9, t10, t11, t12, t13, t14) => (some (.int (t0)), ((zua (zua (zua (zua ar 65 t1) 66 t2) 68 t3) 69 t4), (zuf (zuf (zuf (zuf (zuf (zuf (zuf (zuf (zuf (zuf fi 64 6 t5) 64 7 t6) 64 8 t7) 64 9 t8) 64 10 t9) 64 12 t10) 64 14 t11) 64 30 t12) 64 31 t13) 64 32 t14), (m1, m2, m3, m4, m5)))
def M_md_orders_139 (X : Nat × (Nat → Int32)) (E : zTE) (ar fi : Nat → Nat → Int32) (m1 : Nat) (m2 : Nat) (m3 : Nat) (m4 : Nat) (m5 : Nat) (x : Int32) (l2 : Int32) (b65 : Nat → Int32) (b66 : Nat → Int32) (b69 : Nat → Int32) (c64_6 : Int32) (c64_7 : Int32) (c64_8 : Int32) (c64_9 : Int32) (c64_10 : Int32) (c64_12 : Int32) (c64_14 : Int32) (c64_30 : Int32) (c64_31 : Int32) (c64_32 : Int32) (o : zO2) (s : U_md_orders_139) : Prop := match s with
  | (l3, b68) => zR2 X zFT E zc_196 139 [.ref 64, .int x, .int l2, .int l3] [] ((zua (zua (zua (zua ar 65 b65) 66 b66) 68 b68) 69 b69), (zuf (zuf (zuf (zuf (zuf (zuf (zuf (zuf (zuf (zuf fi 64 6 c64_6) 64 7 c64_7) 64 8 c64_8) 64 9 c64_9) 64 10 c64_10) 64 12 c64_12) 64 14 c64_14) 64 30 c64_30) 64 31 c64_31) 64 32 c64_32), (m1, m2, m3, m4, m5)) o
def M_md_orders_72 (X : Nat × (Nat → Int32)) (E : zTE) (ar fi : Nat → Nat → Int32) (m1 : Nat) (m2 : Nat) (m3 : Nat) (m4 : Nat) (m5 : Nat) (x : Int32) (b66 : Nat → Int32) (b69 : Nat → Int32) (c64_6 : Int32) (c64_8 : Int32) (c64_12 : Int32) (c64_14 : Int32) (o : zO2) (s : U_md_orders_72) : Prop := match s with
  | (l2, b65, b68, c64_7, c64_9, c64_10, c64_30, c64_31, c64_32) => zR2 X zFT E zc_196 72 [.ref 64, .int x, .int l2] [] ((zua (zua (zua (zua ar 65 b65) 66 b66) 68 b68) 69 b69), (zuf (zuf (zuf (zuf (zuf (zuf (zuf (zuf (zuf (zuf fi 64 6 c64_6) 64 7 c64_7) 64 8 c64_8) 64 9 c64_9) 64 10 c64_10) 64 12 c64_12) 64 14 c64_14) 64 30 c64_30) 64 31 c64_31) 64 32 c64_32), (m1, m2, m3, m4, m5)) o
def M_md_orders_43 (X : Nat × (Nat → Int32)) (E : zTE) (ar fi : Nat → Nat → Int32) (m1 : Nat) (m2 : Nat) (m3 : Nat) (m4 : Nat) (m5 : Nat) (x : Int32) (b65 : Nat → Int32) (b66 : Nat → Int32) (b68 : Nat → Int32) (c64_6 : Int32) (c64_7 : Int32) (c64_8 : Int32) (c64_9 : Int32) (c64_10 : Int32) (c64_12 : Int32) (c64_14 : Int32) (c64_30 : Int32) (c64_31 : Int32) (c64_32 : Int32) (o : zO2) (s : U_md_orders_43) : Prop := match s with
  | (l2, b69) => zR2 X zFT E zc_196 43 [.ref 64, .int x, .int l2] [] ((zua (zua (zua (zua ar 65 b65) 66 b66) 68 b68) 69 b69), (zuf (zuf (zuf (zuf (zuf (zuf (zuf (zuf (zuf (zuf fi 64 6 c64_6) 64 7 c64_7) 64 8 c64_8) 64 9 c64_9) 64 10 c64_10) 64 12 c64_12) 64 14 c64_14) 64 30 c64_30) 64 31 c64_31) 64 32 c64_32), (m1, m2, m3, m4, m5)) o
set_option maxRecDepth 1000000 in
theorem t139_md_orders {X : Nat × (Nat → Int32)} {ar fi : Nat → Nat → Int32} {m1 m2 m3 m4 m5 : Nat} {x : Int32} {l2 : Int32} {l3 : Int32} {b65 : Nat → Int32} {b66 : Nat → Int32} {b68 : Nat → Int32} {b69 : Nat → Int32} {c64_6 : Int32} {c64_7 : Int32} {c64_8 : Int32} {c64_9 : Int32} {c64_10 : Int32} {c64_12 : Int32} {c64_14 : Int32} {c64_30 : Int32} {c64_31 : Int32} {c64_32 : Int32} {W_md_in : Int32 → Int32 → Int32 → Int32} {F0_md_beginsText : Int32 → Int32} {F1_md_beginsText : Int32 → Int32} {F2_md_beginsText : Int32 → Int32} {F3_md_beginsText : Int32 → Int32} {A0_md_copies : (Nat → Int32) → (Nat → Int32) → Nat → Int32} {Q_md_readsLine : (Nat → Int32) → (Nat → Int32) → (Nat → Int32) → Int32 → Int32 → Int32 → Int32 → Int32 → Int32 → Int32 → Option (Int32 × (Nat → Int32) × (Nat → Int32) × Int32 × Int32 × Int32 × Int32 × Int32 × Int32)} {G_md_takes : Int32 → Int32 → Int32 → (Nat → Int32) → Int32 → Bool} {W_md_takes : Int32 → Int32 → Int32 → (Nat → Int32) → Int32 → Int32} {F0_md_takes : Int32 → Int32 → Int32 → (Nat → Int32) → Int32 → Int32} {F1_md_takes : Int32 → Int32 → Int32 → (Nat → Int32) → Int32 → Int32} : zseg X zFT (zEx 143 (P_md_in W_md_in) (zEx 178 (P_md_beginsText F0_md_beginsText F1_md_beginsText F2_md_beginsText F3_md_beginsText) (zEx 148 (P_md_copies A0_md_copies) (zEx 195 (P_md_readsLine Q_md_readsLine) (zEx 161 (P_md_takes G_md_takes W_md_takes F0_md_takes F1_md_takes) zE0))))) zc_196 (fun p => Nat.beq p 43 || Nat.beq p 72 || Nat.beq p 139) 400 139 [.ref 64, .int x, .int l2, .int l3] [] ((zua (zua (zua (zua ar 65 b65) 66 b66) 68 b68) 69 b69), (zuf (zuf (zuf (zuf (zuf (zuf (zuf (zuf (zuf (zuf fi 64 6 c64_6) 64 7 c64_7) 64 8 c64_8) 64 9 c64_9) 64 10 c64_10) 64 12 c64_12) 64 14 c64_14) 64 30 c64_30) 64 31 c64_31) 64 32 c64_32), (m1, m2, m3, m4, m5)) = (
  bif decide (96 ≤ l3) then
   some (.inr (some (.int c64_9), ((zua (zua (zua (zua ar 65 b65) 66 b66) 68 b68) 69 b69), (zuf (zuf (zuf (zuf (zuf (zuf (zuf (zuf (zuf (zuf fi 64 6 c64_6) 64 7 c64_7) 64 8 c64_8) 64 9 c64_9) 64 10 c64_10) 64 12 c64_12) 64 14 c64_14) 64 30 c64_30) 64 31 c64_31) 64 32 c64_32), (m1, m2, m3, m4, m5))))
  else
   zg (Nat.beq 16 16 && (zin l3 96)) (
   zg (Nat.beq 16 16 && (zin l3 96)) (
   some (.inl (139, [.ref 64, .int x, .int l2, .int (l3 + 1)], [], ((zua (zua (zua (zua (zua ar 65 b65) 66 b66) 68 b68) 69 b69) 68 (zup b68 (l3.toNatClampNeg) (b69 (l3.toNatClampNeg)))), (zuf (zuf (zuf (zuf (zuf (zuf (zuf (zuf (zuf (zuf fi 64 6 c64_6) 64 7 c64_7) 64 8 c64_8) 64 9 c64_9) 64 10 c64_10) 64 12 c64_12) 64 14 c64_14) 64 30 c64_30) 64 31 c64_31) 64 32 c64_32), (m1, m2, m3, m4, m5)))))) : Option ((Nat × List Value × List Value × zH2) ⊕ zO2)) := by with_unfolding_all rfl
set_option maxRecDepth 20000 in
theorem k_md_orders_139 {X : Nat × (Nat → Int32)} {ar fi : Nat → Nat → Int32} {m1 m2 m3 m4 m5 : Nat} {x : Int32} {l2 : Int32} {b65 : Nat → Int32} {b66 : Nat → Int32} {b69 : Nat → Int32} {c64_6 : Int32} {c64_7 : Int32} {c64_8 : Int32} {c64_9 : Int32} {c64_10 : Int32} {c64_12 : Int32} {c64_14 : Int32} {c64_30 : Int32} {c64_31 : Int32} {c64_32 : Int32} {o : zO2} : ∀ (s : U_md_orders_139) (q : U_md_orders_139 ⊕ T_md_orders), f_md_orders_139 b65 b66 b69 c64_6 c64_7 c64_8 c64_9 c64_10 c64_12 c64_14 c64_30 c64_31 c64_32 s = some q → zq (M_md_orders_139 X (zEx 143 S_md_in (zEx 178 S_md_beginsText (zEx 148 S_md_copies (zEx 195 S_md_readsLine (zEx 161 S_md_takes zE0))))) ar fi m1 m2 m3 m4 m5 x l2 b65 b66 b69 c64_6 c64_7 c64_8 c64_9 c64_10 c64_12 c64_14 c64_30 c64_31 c64_32 o) (fun t => O_md_orders ar fi m1 m2 m3 m4 m5 t = o) q → M_md_orders_139 X (zEx 143 S_md_in (zEx 178 S_md_beginsText (zEx 148 S_md_copies (zEx 195 S_md_readsLine (zEx 161 S_md_takes zE0))))) ar fi m1 m2 m3 m4 m5 x l2 b65 b66 b69 c64_6 c64_7 c64_8 c64_9 c64_10 c64_12 c64_14 c64_30 c64_31 c64_32 o s := by
  intro s q h hq
  obtain ⟨l3, b68⟩ := s
  have h : b_md_orders_139 b65 b66 b69 c64_6 c64_7 c64_8 c64_9 c64_10 c64_12 c64_14 c64_30 c64_31 c64_32 l3 b68 = some q := h
  unfold b_md_orders_139 at h
  show zR2 X zFT (zEx 143 S_md_in (zEx 178 S_md_beginsText (zEx 148 S_md_copies (zEx 195 S_md_readsLine (zEx 161 S_md_takes zE0))))) zc_196 139 [.ref 64, .int x, .int l2, .int l3] [] ((zua (zua (zua (zua ar 65 b65) 66 b66) 68 b68) 69 b69), (zuf (zuf (zuf (zuf (zuf (zuf (zuf (zuf (zuf (zuf fi 64 6 c64_6) 64 7 c64_7) 64 8 c64_8) 64 9 c64_9) 64 10 c64_10) 64 12 c64_12) 64 14 c64_14) 64 30 c64_30) 64 31 c64_31) 64 32 c64_32), (m1, m2, m3, m4, m5)) o
  refine zT_seg t139_md_orders ?_
  obtain ⟨TT, hTT⟩ : ∃ T, T = zT X zFT (zEx 143 S_md_in (zEx 178 S_md_beginsText (zEx 148 S_md_copies (zEx 195 S_md_readsLine (zEx 161 S_md_takes zE0))))) zc_196 o := ⟨_, rfl⟩
  rw [← hTT]
  refine zb_el h (fun hb h => zU_t hTT hb ?_) (fun hb h => zU_f hTT hb ?_)
  · rw [hTT]
    have hz := zsi h hq
    refine (zO_mk ?_ ?_).trans hz
    · first | with_reducible rfl | exact hA0_md_orders _ _ _ _ _
    · first | with_reducible rfl | exact hF1_md_orders _ _ _ _ _ _ _ _ _ _ _
  · refine zg_el h (fun hg h => zU_ga hTT hg ?_)
    refine zg_el h (fun hg h => zU_ga hTT hg ?_)
    rw [hTT]
    have hz := zsi h hq
    refine zR2_hp ?_ ?_ hz
    · first | with_reducible rfl | exact hA2_md_orders _ _ _ _ _ _
    · first | with_reducible rfl | exact hF1_md_orders _ _ _ _ _ _ _ _ _ _ _
set_option maxRecDepth 1000000 in
theorem t72_md_orders {X : Nat × (Nat → Int32)} {ar fi : Nat → Nat → Int32} {m1 m2 m3 m4 m5 : Nat} {x : Int32} {l2 : Int32} {b65 : Nat → Int32} {b66 : Nat → Int32} {b68 : Nat → Int32} {b69 : Nat → Int32} {c64_6 : Int32} {c64_7 : Int32} {c64_8 : Int32} {c64_9 : Int32} {c64_10 : Int32} {c64_12 : Int32} {c64_14 : Int32} {c64_30 : Int32} {c64_31 : Int32} {c64_32 : Int32} {W_md_in : Int32 → Int32 → Int32 → Int32} {F0_md_beginsText : Int32 → Int32} {F1_md_beginsText : Int32 → Int32} {F2_md_beginsText : Int32 → Int32} {F3_md_beginsText : Int32 → Int32} {A0_md_copies : (Nat → Int32) → (Nat → Int32) → Nat → Int32} {Q_md_readsLine : (Nat → Int32) → (Nat → Int32) → (Nat → Int32) → Int32 → Int32 → Int32 → Int32 → Int32 → Int32 → Int32 → Option (Int32 × (Nat → Int32) × (Nat → Int32) × Int32 × Int32 × Int32 × Int32 × Int32 × Int32)} {G_md_takes : Int32 → Int32 → Int32 → (Nat → Int32) → Int32 → Bool} {W_md_takes : Int32 → Int32 → Int32 → (Nat → Int32) → Int32 → Int32} {F0_md_takes : Int32 → Int32 → Int32 → (Nat → Int32) → Int32 → Int32} {F1_md_takes : Int32 → Int32 → Int32 → (Nat → Int32) → Int32 → Int32} : zseg X zFT (zEx 143 (P_md_in W_md_in) (zEx 178 (P_md_beginsText F0_md_beginsText F1_md_beginsText F2_md_beginsText F3_md_beginsText) (zEx 148 (P_md_copies A0_md_copies) (zEx 195 (P_md_readsLine Q_md_readsLine) (zEx 161 (P_md_takes G_md_takes W_md_takes F0_md_takes F1_md_takes) zE0))))) zc_196 (fun p => Nat.beq p 43 || Nat.beq p 72 || Nat.beq p 139) 400 72 [.ref 64, .int x, .int l2] [] ((zua (zua (zua (zua ar 65 b65) 66 b66) 68 b68) 69 b69), (zuf (zuf (zuf (zuf (zuf (zuf (zuf (zuf (zuf (zuf fi 64 6 c64_6) 64 7 c64_7) 64 8 c64_8) 64 9 c64_9) 64 10 c64_10) 64 12 c64_12) 64 14 c64_14) 64 30 c64_30) 64 31 c64_31) 64 32 c64_32), (m1, m2, m3, m4, m5)) = (
  bif decide (l2 = 0) then
   bif decide (l2 = 0) then
    zl (A0_md_copies b66 b65) (fun v8 =>
    some (.inl (139, [.ref 64, .int x, .int l2, .int 0], [], ((zua (zua (zua (zua (zua ar 65 b65) 66 b66) 68 b68) 69 b69) 65 v8), (zuf (zuf (zuf (zuf (zuf (zuf (zuf (zuf (zuf (zuf (zuf fi 64 6 c64_6) 64 7 c64_7) 64 8 c64_8) 64 9 c64_9) 64 10 c64_10) 64 12 c64_12) 64 14 c64_14) 64 30 c64_30) 64 31 c64_31) 64 32 c64_32) 64 6 0), (m1, m2, m3, m4, m5)))))
   else
    some (.inr (some (.int c64_30), ((zua (zua (zua (zua ar 65 b65) 66 b66) 68 b68) 69 b69), (zuf (zuf (zuf (zuf (zuf (zuf (zuf (zuf (zuf (zuf (zuf fi 64 6 c64_6) 64 7 c64_7) 64 8 c64_8) 64 9 c64_9) 64 10 c64_10) 64 12 c64_12) 64 14 c64_14) 64 30 c64_30) 64 31 c64_31) 64 32 c64_32) 64 6 0), (m1, m2, m3, m4, m5))))
  else
   bif decide (c64_8 ≤ c64_7) then
    bif decide (l2 = 0) then
     zl (A0_md_copies b66 b65) (fun v9 =>
     some (.inl (139, [.ref 64, .int x, .int l2, .int 0], [], ((zua (zua (zua (zua (zua ar 65 b65) 66 b66) 68 b68) 69 b69) 65 v9), (zuf (zuf (zuf (zuf (zuf (zuf (zuf (zuf (zuf (zuf (zuf fi 64 6 c64_6) 64 7 c64_7) 64 8 c64_8) 64 9 c64_9) 64 10 c64_10) 64 12 c64_12) 64 14 c64_14) 64 30 c64_30) 64 31 c64_31) 64 32 c64_32) 64 6 0), (m1, m2, m3, m4, m5)))))
    else
     some (.inr (some (.int c64_30), ((zua (zua (zua (zua ar 65 b65) 66 b66) 68 b68) 69 b69), (zuf (zuf (zuf (zuf (zuf (zuf (zuf (zuf (zuf (zuf (zuf fi 64 6 c64_6) 64 7 c64_7) 64 8 c64_8) 64 9 c64_9) 64 10 c64_10) 64 12 c64_12) 64 14 c64_14) 64 30 c64_30) 64 31 c64_31) 64 32 c64_32) 64 6 0), (m1, m2, m3, m4, m5))))
   else
    zg (G_md_takes 59 c64_8 c64_7 (ar 70) c64_9) (
    zl (W_md_takes 59 c64_8 c64_7 (ar 70) c64_9) (fun v10 =>
    zl (F0_md_takes 59 c64_8 c64_7 (ar 70) c64_9) (fun v11 =>
    zl (F1_md_takes 59 c64_8 c64_7 (ar 70) c64_9) (fun v12 =>
    bif decide (v10 = 0) then
     some (.inl (72, [.ref 64, .int x, .int 0], [], ((zua (zua (zua (zua ar 65 b65) 66 b66) 68 b68) 69 b69), (zuf (zuf (zuf (zuf (zuf (zuf (zuf (zuf (zuf (zuf (zuf (zuf fi 64 6 c64_6) 64 7 c64_7) 64 8 c64_8) 64 9 c64_9) 64 10 c64_10) 64 12 c64_12) 64 14 c64_14) 64 30 c64_30) 64 31 c64_31) 64 32 c64_32) 64 7 v11) 64 9 v12), (m1, m2, m3, m4, m5))))
    else
     zl (Q_md_readsLine b65 b68 (ar 70) v11 c64_8 v12 c64_10 c64_30 c64_31 c64_32) (fun v13 => zg v13.isSome (
     bif decide (((zgt v13).1) = 0) then
      some (.inl (72, [.ref 64, .int x, .int 0], [], ((zua (zua (zua (zua (zua (zua ar 65 b65) 66 b66) 68 b68) 69 b69) 65 (((zgt v13).2.1))) 68 (((zgt v13).2.2.1))), (zuf (zuf (zuf (zuf (zuf (zuf (zuf (zuf (zuf (zuf (zuf (zuf (zuf (zuf (zuf (zuf (zuf (zuf fi 64 6 c64_6) 64 7 c64_7) 64 8 c64_8) 64 9 c64_9) 64 10 c64_10) 64 12 c64_12) 64 14 c64_14) 64 30 c64_30) 64 31 c64_31) 64 32 c64_32) 64 7 v11) 64 9 v12) 64 7 (((zgt v13).2.2.2.1))) 64 9 (((zgt v13).2.2.2.2.1))) 64 10 (((zgt v13).2.2.2.2.2.1))) 64 30 (((zgt v13).2.2.2.2.2.2.1))) 64 31 (((zgt v13).2.2.2.2.2.2.2.1))) 64 32 (((zgt v13).2.2.2.2.2.2.2.2))), (m1, m2, m3, m4, m5))))
     else
      some (.inl (72, [.ref 64, .int x, .int 1], [], ((zua (zua (zua (zua (zua (zua ar 65 b65) 66 b66) 68 b68) 69 b69) 65 (((zgt v13).2.1))) 68 (((zgt v13).2.2.1))), (zuf (zuf (zuf (zuf (zuf (zuf (zuf (zuf (zuf (zuf (zuf (zuf (zuf (zuf (zuf (zuf (zuf (zuf fi 64 6 c64_6) 64 7 c64_7) 64 8 c64_8) 64 9 c64_9) 64 10 c64_10) 64 12 c64_12) 64 14 c64_14) 64 30 c64_30) 64 31 c64_31) 64 32 c64_32) 64 7 v11) 64 9 v12) 64 7 (((zgt v13).2.2.2.1))) 64 9 (((zgt v13).2.2.2.2.1))) 64 10 (((zgt v13).2.2.2.2.2.1))) 64 30 (((zgt v13).2.2.2.2.2.2.1))) 64 31 (((zgt v13).2.2.2.2.2.2.2.1))) 64 32 (((zgt v13).2.2.2.2.2.2.2.2))), (m1, m2, m3, m4, m5)))))))))) : Option ((Nat × List Value × List Value × zH2) ⊕ zO2)) := by with_unfolding_all rfl
set_option maxRecDepth 20000 in
theorem k_md_orders_72 {X : Nat × (Nat → Int32)} {ar fi : Nat → Nat → Int32} {m1 m2 m3 m4 m5 : Nat} {x : Int32} {b66 : Nat → Int32} {b69 : Nat → Int32} {c64_6 : Int32} {c64_8 : Int32} {c64_12 : Int32} {c64_14 : Int32} {o : zO2} : ∀ (s : U_md_orders_72) (q : U_md_orders_72 ⊕ T_md_orders), f_md_orders_72 (ar 70) b66 b69 c64_8 c64_12 c64_14 s = some q → zq (M_md_orders_72 X (zEx 143 S_md_in (zEx 178 S_md_beginsText (zEx 148 S_md_copies (zEx 195 S_md_readsLine (zEx 161 S_md_takes zE0))))) ar fi m1 m2 m3 m4 m5 x b66 b69 c64_6 c64_8 c64_12 c64_14 o) (fun t => O_md_orders ar fi m1 m2 m3 m4 m5 t = o) q → M_md_orders_72 X (zEx 143 S_md_in (zEx 178 S_md_beginsText (zEx 148 S_md_copies (zEx 195 S_md_readsLine (zEx 161 S_md_takes zE0))))) ar fi m1 m2 m3 m4 m5 x b66 b69 c64_6 c64_8 c64_12 c64_14 o s := by
  intro s q h hq
  obtain ⟨l2, b65, b68, c64_7, c64_9, c64_10, c64_30, c64_31, c64_32⟩ := s
  have h : b_md_orders_72 (ar 70) b66 b69 c64_8 c64_12 c64_14 l2 b65 b68 c64_7 c64_9 c64_10 c64_30 c64_31 c64_32 = some q := h
  unfold b_md_orders_72 at h
  show zR2 X zFT (zEx 143 S_md_in (zEx 178 S_md_beginsText (zEx 148 S_md_copies (zEx 195 S_md_readsLine (zEx 161 S_md_takes zE0))))) zc_196 72 [.ref 64, .int x, .int l2] [] ((zua (zua (zua (zua ar 65 b65) 66 b66) 68 b68) 69 b69), (zuf (zuf (zuf (zuf (zuf (zuf (zuf (zuf (zuf (zuf fi 64 6 c64_6) 64 7 c64_7) 64 8 c64_8) 64 9 c64_9) 64 10 c64_10) 64 12 c64_12) 64 14 c64_14) 64 30 c64_30) 64 31 c64_31) 64 32 c64_32), (m1, m2, m3, m4, m5)) o
  refine zT_seg t72_md_orders ?_
  obtain ⟨TT, hTT⟩ : ∃ T, T = zT X zFT (zEx 143 S_md_in (zEx 178 S_md_beginsText (zEx 148 S_md_copies (zEx 195 S_md_readsLine (zEx 161 S_md_takes zE0))))) zc_196 o := ⟨_, rfl⟩
  rw [← hTT]
  refine zb_el h (fun hb h => zU_t hTT hb ?_) (fun hb h => zU_f hTT hb ?_)
  · refine zb_el h (fun hb h => zU_t hTT hb ?_) (fun hb h => zU_f hTT hb ?_)
    · refine zl_el h (fun h => zU_l hTT ?_)
      rw [hTT]
      refine zbd_el h (fun r hr h => ?_)
      have hz := zsi h hq
      refine zR2_hp ?_ ?_ (zlp_K k_md_orders_139 hr hz)
      · first | with_reducible rfl | exact hA3_md_orders _ _ _ _ _ _
      · first | with_reducible rfl | exact hF4_md_orders _ _ _ _ _ _ _ _ _ _ _ _
    · rw [hTT]
      have hz := zsi h hq
      refine (zO_mk ?_ ?_).trans hz
      · first | with_reducible rfl | exact hA0_md_orders _ _ _ _ _
      · first | with_reducible rfl | exact hF4_md_orders _ _ _ _ _ _ _ _ _ _ _ _
  · refine zb_el h (fun hb h => zU_t hTT hb ?_) (fun hb h => zU_f hTT hb ?_)
    · refine zb_el h (fun hb h => zU_t hTT hb ?_) (fun hb h => zU_f hTT hb ?_)
      · refine zl_el h (fun h => zU_l hTT ?_)
        rw [hTT]
        refine zbd_el h (fun r hr h => ?_)
        have hz := zsi h hq
        refine zR2_hp ?_ ?_ (zlp_K k_md_orders_139 hr hz)
        · first | with_reducible rfl | exact hA3_md_orders _ _ _ _ _ _
        · first | with_reducible rfl | exact hF4_md_orders _ _ _ _ _ _ _ _ _ _ _ _
      · rw [hTT]
        have hz := zsi h hq
        refine (zO_mk ?_ ?_).trans hz
        · first | with_reducible rfl | exact hA0_md_orders _ _ _ _ _
        · first | with_reducible rfl | exact hF4_md_orders _ _ _ _ _ _ _ _ _ _ _ _
    · refine zg_el h (fun hg h => zU_g hTT hg ?_)
      refine zl_el h (fun h => zU_l hTT ?_)
      refine zl_el h (fun h => zU_l hTT ?_)
      refine zl_el h (fun h => zU_l hTT ?_)
      refine zb_el h (fun hb h => zU_t hTT hb ?_) (fun hb h => zU_f hTT hb ?_)
      · rw [hTT]
        have hz := zsi h hq
        refine zR2_hp ?_ ?_ hz
        · first | with_reducible rfl | exact hA0_md_orders _ _ _ _ _
        · first | with_reducible rfl | exact hF5_md_orders _ _ _ _ _ _ _ _ _ _ _ _ _
      · refine zbd_el h (fun v13 hv h => zU_c hTT hv ?_)
        refine zb_el h (fun hb h => zU_t hTT hb ?_) (fun hb h => zU_f hTT hb ?_)
        · rw [hTT]
          have hz := zsi h hq
          refine zR2_hp ?_ ?_ hz
          · first | with_reducible rfl | exact hA6_md_orders _ _ _ _ _ _ _
          · first | with_reducible rfl | exact hF7_md_orders _ _ _ _ _ _ _ _ _ _ _ _ _ _ _ _ _ _ _
        · rw [hTT]
          have hz := zsi h hq
          refine zR2_hp ?_ ?_ hz
          · first | with_reducible rfl | exact hA6_md_orders _ _ _ _ _ _ _
          · first | with_reducible rfl | exact hF7_md_orders _ _ _ _ _ _ _ _ _ _ _ _ _ _ _ _ _ _ _
set_option maxRecDepth 1000000 in
theorem t43_md_orders {X : Nat × (Nat → Int32)} {ar fi : Nat → Nat → Int32} {m1 m2 m3 m4 m5 : Nat} {x : Int32} {l2 : Int32} {b65 : Nat → Int32} {b66 : Nat → Int32} {b68 : Nat → Int32} {b69 : Nat → Int32} {c64_6 : Int32} {c64_7 : Int32} {c64_8 : Int32} {c64_9 : Int32} {c64_10 : Int32} {c64_12 : Int32} {c64_14 : Int32} {c64_30 : Int32} {c64_31 : Int32} {c64_32 : Int32} {W_md_in : Int32 → Int32 → Int32 → Int32} {F0_md_beginsText : Int32 → Int32} {F1_md_beginsText : Int32 → Int32} {F2_md_beginsText : Int32 → Int32} {F3_md_beginsText : Int32 → Int32} {A0_md_copies : (Nat → Int32) → (Nat → Int32) → Nat → Int32} {Q_md_readsLine : (Nat → Int32) → (Nat → Int32) → (Nat → Int32) → Int32 → Int32 → Int32 → Int32 → Int32 → Int32 → Int32 → Option (Int32 × (Nat → Int32) × (Nat → Int32) × Int32 × Int32 × Int32 × Int32 × Int32 × Int32)} {G_md_takes : Int32 → Int32 → Int32 → (Nat → Int32) → Int32 → Bool} {W_md_takes : Int32 → Int32 → Int32 → (Nat → Int32) → Int32 → Int32} {F0_md_takes : Int32 → Int32 → Int32 → (Nat → Int32) → Int32 → Int32} {F1_md_takes : Int32 → Int32 → Int32 → (Nat → Int32) → Int32 → Int32} : zseg X zFT (zEx 143 (P_md_in W_md_in) (zEx 178 (P_md_beginsText F0_md_beginsText F1_md_beginsText F2_md_beginsText F3_md_beginsText) (zEx 148 (P_md_copies A0_md_copies) (zEx 195 (P_md_readsLine Q_md_readsLine) (zEx 161 (P_md_takes G_md_takes W_md_takes F0_md_takes F1_md_takes) zE0))))) zc_196 (fun p => Nat.beq p 43 || Nat.beq p 72 || Nat.beq p 139) 400 43 [.ref 64, .int x, .int l2] [] ((zua (zua (zua (zua ar 65 b65) 66 b66) 68 b68) 69 b69), (zuf (zuf (zuf (zuf (zuf (zuf (zuf (zuf (zuf (zuf fi 64 6 c64_6) 64 7 c64_7) 64 8 c64_8) 64 9 c64_9) 64 10 c64_10) 64 12 c64_12) 64 14 c64_14) 64 30 c64_30) 64 31 c64_31) 64 32 c64_32), (m1, m2, m3, m4, m5)) = (
  bif decide (96 ≤ l2) then
   zl (Q_md_readsLine b65 b68 (ar 70) c64_7 c64_8 c64_9 c64_10 c64_30 c64_31 c64_32) (fun v7 => zg v7.isSome (
   some (.inl (72, [.ref 64, .int x, .int (((zgt v7).1))], [], ((zua (zua (zua (zua (zua (zua ar 65 b65) 66 b66) 68 b68) 69 b69) 65 (((zgt v7).2.1))) 68 (((zgt v7).2.2.1))), (zuf (zuf (zuf (zuf (zuf (zuf (zuf (zuf (zuf (zuf (zuf (zuf (zuf (zuf (zuf (zuf fi 64 6 c64_6) 64 7 c64_7) 64 8 c64_8) 64 9 c64_9) 64 10 c64_10) 64 12 c64_12) 64 14 c64_14) 64 30 c64_30) 64 31 c64_31) 64 32 c64_32) 64 7 (((zgt v7).2.2.2.1))) 64 9 (((zgt v7).2.2.2.2.1))) 64 10 (((zgt v7).2.2.2.2.2.1))) 64 30 (((zgt v7).2.2.2.2.2.2.1))) 64 31 (((zgt v7).2.2.2.2.2.2.2.1))) 64 32 (((zgt v7).2.2.2.2.2.2.2.2))), (m1, m2, m3, m4, m5))))))
  else
   zg (Nat.beq 16 16 && (zin l2 96)) (
   zg (Nat.beq 16 16 && (zin l2 96)) (
   some (.inl (43, [.ref 64, .int x, .int (l2 + 1)], [], ((zua (zua (zua (zua (zua ar 65 b65) 66 b66) 68 b68) 69 b69) 69 (zup b69 (l2.toNatClampNeg) (b68 (l2.toNatClampNeg)))), (zuf (zuf (zuf (zuf (zuf (zuf (zuf (zuf (zuf (zuf fi 64 6 c64_6) 64 7 c64_7) 64 8 c64_8) 64 9 c64_9) 64 10 c64_10) 64 12 c64_12) 64 14 c64_14) 64 30 c64_30) 64 31 c64_31) 64 32 c64_32), (m1, m2, m3, m4, m5)))))) : Option ((Nat × List Value × List Value × zH2) ⊕ zO2)) := by with_unfolding_all rfl
set_option maxRecDepth 20000 in
theorem k_md_orders_43 {X : Nat × (Nat → Int32)} {ar fi : Nat → Nat → Int32} {m1 m2 m3 m4 m5 : Nat} {x : Int32} {b65 : Nat → Int32} {b66 : Nat → Int32} {b68 : Nat → Int32} {c64_6 : Int32} {c64_7 : Int32} {c64_8 : Int32} {c64_9 : Int32} {c64_10 : Int32} {c64_12 : Int32} {c64_14 : Int32} {c64_30 : Int32} {c64_31 : Int32} {c64_32 : Int32} {o : zO2} : ∀ (s : U_md_orders_43) (q : U_md_orders_43 ⊕ T_md_orders), f_md_orders_43 (ar 70) b65 b66 b68 c64_7 c64_8 c64_9 c64_10 c64_12 c64_14 c64_30 c64_31 c64_32 s = some q → zq (M_md_orders_43 X (zEx 143 S_md_in (zEx 178 S_md_beginsText (zEx 148 S_md_copies (zEx 195 S_md_readsLine (zEx 161 S_md_takes zE0))))) ar fi m1 m2 m3 m4 m5 x b65 b66 b68 c64_6 c64_7 c64_8 c64_9 c64_10 c64_12 c64_14 c64_30 c64_31 c64_32 o) (fun t => O_md_orders ar fi m1 m2 m3 m4 m5 t = o) q → M_md_orders_43 X (zEx 143 S_md_in (zEx 178 S_md_beginsText (zEx 148 S_md_copies (zEx 195 S_md_readsLine (zEx 161 S_md_takes zE0))))) ar fi m1 m2 m3 m4 m5 x b65 b66 b68 c64_6 c64_7 c64_8 c64_9 c64_10 c64_12 c64_14 c64_30 c64_31 c64_32 o s := by
  intro s q h hq
  obtain ⟨l2, b69⟩ := s
  have h : b_md_orders_43 (ar 70) b65 b66 b68 c64_7 c64_8 c64_9 c64_10 c64_12 c64_14 c64_30 c64_31 c64_32 l2 b69 = some q := h
  unfold b_md_orders_43 at h
  show zR2 X zFT (zEx 143 S_md_in (zEx 178 S_md_beginsText (zEx 148 S_md_copies (zEx 195 S_md_readsLine (zEx 161 S_md_takes zE0))))) zc_196 43 [.ref 64, .int x, .int l2] [] ((zua (zua (zua (zua ar 65 b65) 66 b66) 68 b68) 69 b69), (zuf (zuf (zuf (zuf (zuf (zuf (zuf (zuf (zuf (zuf fi 64 6 c64_6) 64 7 c64_7) 64 8 c64_8) 64 9 c64_9) 64 10 c64_10) 64 12 c64_12) 64 14 c64_14) 64 30 c64_30) 64 31 c64_31) 64 32 c64_32), (m1, m2, m3, m4, m5)) o
  refine zT_seg t43_md_orders ?_
  obtain ⟨TT, hTT⟩ : ∃ T, T = zT X zFT (zEx 143 S_md_in (zEx 178 S_md_beginsText (zEx 148 S_md_copies (zEx 195 S_md_readsLine (zEx 161 S_md_takes zE0))))) zc_196 o := ⟨_, rfl⟩
  rw [← hTT]
  refine zb_el h (fun hb h => zU_t hTT hb ?_) (fun hb h => zU_f hTT hb ?_)
  · refine zbd_el h (fun v7 hv h => zU_c hTT hv ?_)
    rw [hTT]
    refine zbd_el h (fun r hr h => ?_)
    have hz := zsi h hq
    apply zR2_hp ?hA ?hF (zlp_K k_md_orders_72 hr hz)
    case hA => first | with_reducible rfl | exact hA6_md_orders _ _ _ _ _ _ _
    case hF => first | with_reducible rfl | exact hF8_md_orders _ _ _ _ _ _ _ _ _ _ _ _ _ _ _ _ _
  · refine zg_el h (fun hg h => zU_ga hTT hg ?_)
    refine zg_el h (fun hg h => zU_ga hTT hg ?_)
    rw [hTT]
    have hz := zsi h hq
    refine zR2_hp ?_ ?_ hz
    · first | with_reducible rfl | exact hA9_md_orders _ _ _ _ _ _
    · first | with_reducible rfl | exact hF1_md_orders _ _ _ _ _ _ _ _ _ _ _
set_option maxRecDepth 1000000 in
theorem t_md_orders {X : Nat × (Nat → Int32)} {ar fi : Nat → Nat → Int32} {m1 m2 m3 m4 m5 : Nat} {x : Int32} {W_md_in : Int32 → Int32 → Int32 → Int32} {F0_md_beginsText : Int32 → Int32} {F1_md_beginsText : Int32 → Int32} {F2_md_beginsText : Int32 → Int32} {F3_md_beginsText : Int32 → Int32} {A0_md_copies : (Nat → Int32) → (Nat → Int32) → Nat → Int32} {Q_md_readsLine : (Nat → Int32) → (Nat → Int32) → (Nat → Int32) → Int32 → Int32 → Int32 → Int32 → Int32 → Int32 → Int32 → Option (Int32 × (Nat → Int32) × (Nat → Int32) × Int32 × Int32 × Int32 × Int32 × Int32 × Int32)} {G_md_takes : Int32 → Int32 → Int32 → (Nat → Int32) → Int32 → Bool} {W_md_takes : Int32 → Int32 → Int32 → (Nat → Int32) → Int32 → Int32} {F0_md_takes : Int32 → Int32 → Int32 → (Nat → Int32) → Int32 → Int32} {F1_md_takes : Int32 → Int32 → Int32 → (Nat → Int32) → Int32 → Int32} : zseg X zFT (zEx 143 (P_md_in W_md_in) (zEx 178 (P_md_beginsText F0_md_beginsText F1_md_beginsText F2_md_beginsText F3_md_beginsText) (zEx 148 (P_md_copies A0_md_copies) (zEx 195 (P_md_readsLine Q_md_readsLine) (zEx 161 (P_md_takes G_md_takes W_md_takes F0_md_takes F1_md_takes) zE0))))) zc_196 (fun p => Nat.beq p 43 || Nat.beq p 72 || Nat.beq p 139) 400 0 [.ref 64, .int x] [] (ar, fi, (m1, m2, m3, m4, m5)) = (
  zl (W_md_in x 1 120) (fun v1 =>
  bif decide (v1 = 0) then
   some (.inr (some (.int (-1)), (ar, fi, (m1, m2, m3, m4, m5))))
  else
   bif decide (x ≤ fi 64 6) then
    zl (F0_md_beginsText x) (fun v2 =>
    zl (F1_md_beginsText x) (fun v3 =>
    zl (F2_md_beginsText x) (fun v4 =>
    zl (F3_md_beginsText x) (fun v5 =>
    zl (A0_md_copies (ar 65) (ar 66)) (fun v6 =>
    some (.inl (43, [.ref 64, .int x, .int 0], [], ((zua ar 66 v6), (zuf (zuf (zuf (zuf (zuf fi 64 7 v2) 64 8 v3) 64 12 v4) 64 14 v5) 64 30 0), (m1, m2, m3, m4, m5)))))))))
   else
    some (.inr (some (.int (-1)), (ar, fi, (m1, m2, m3, m4, m5))))) : Option ((Nat × List Value × List Value × zH2) ⊕ zO2)) := by with_unfolding_all rfl
set_option maxRecDepth 20000 in
theorem e_md_orders {X : Nat × (Nat → Int32)} {ar fi : Nat → Nat → Int32} {m1 m2 m3 m4 m5 : Nat} {x : Int32} {o : zO2} : ∀ (q : T_md_orders), q_md_orders x (ar 65) (ar 66) (ar 68) (ar 69) (ar 70) (fi 64 6) (fi 64 7) (fi 64 8) (fi 64 9) (fi 64 10) (fi 64 12) (fi 64 14) (fi 64 30) (fi 64 31) (fi 64 32) = some q → (fun t => O_md_orders ar fi m1 m2 m3 m4 m5 t = o) q → zR2 X zFT (zEx 143 S_md_in (zEx 178 S_md_beginsText (zEx 148 S_md_copies (zEx 195 S_md_readsLine (zEx 161 S_md_takes zE0))))) zc_196 0 [.ref 64, .int x] [] (ar, fi, (m1, m2, m3, m4, m5)) o := by
  intro q h hq
  unfold q_md_orders at h
  refine zT_seg t_md_orders ?_
  obtain ⟨TT, hTT⟩ : ∃ T, T = zT X zFT (zEx 143 S_md_in (zEx 178 S_md_beginsText (zEx 148 S_md_copies (zEx 195 S_md_readsLine (zEx 161 S_md_takes zE0))))) zc_196 o := ⟨_, rfl⟩
  rw [← hTT]
  refine zl_el h (fun h => zU_l hTT ?_)
  refine zb_el h (fun hb h => zU_t hTT hb ?_) (fun hb h => zU_f hTT hb ?_)
  · rw [hTT]
    have hz := zsi (P := (fun t => O_md_orders ar fi m1 m2 m3 m4 m5 t = o)) h hq
    refine (zO_mk ?_ ?_).trans hz
    · first | with_reducible rfl | exact hA10_md_orders _
    · first | with_reducible rfl | exact hF11_md_orders _
  · refine zb_el h (fun hb h => zU_t hTT hb ?_) (fun hb h => zU_f hTT hb ?_)
    · refine zl_el h (fun h => zU_l hTT ?_)
      refine zl_el h (fun h => zU_l hTT ?_)
      refine zl_el h (fun h => zU_l hTT ?_)
      refine zl_el h (fun h => zU_l hTT ?_)
      refine zl_el h (fun h => zU_l hTT ?_)
      rw [hTT]
      apply zR2_hp ?hA ?hF (zlp_K k_md_orders_43 h hq)
      case hA => first | with_reducible rfl | exact hA12_md_orders _ _
      case hF => first | with_reducible rfl | exact hF13_md_orders _ _ _ _ _ _
    · rw [hTT]
      have hz := zsi (P := (fun t => O_md_orders ar fi m1 m2 m3 m4 m5 t = o)) h hq
      refine (zO_mk ?_ ?_).trans hz
      · first | with_reducible rfl | exact hA10_md_orders _
      · first | with_reducible rfl | exact hF11_md_orders _
theorem ok_md_orders (X : Nat × (Nat → Int32)) : zOkS X 196 S_md_orders 7 := zOkS_new (zOkE_cons (ok_md_in X) (by decide) (zOkE_cons (ok_md_beginsText X) (by decide) (zOkE_cons (ok_md_copies X) (by decide) (zOkE_cons (ok_md_readsLine X) (by decide) (zOkE_cons (ok_md_takes X) (by decide) (zOkE_nil X 6)))))) (by
  intro args g o h
  obtain ⟨ar, fi, m1, m2, m3, m4, m5⟩ := g
  unfold S_md_orders P_md_orders at h
  split at h
  · refine zb_el h (fun hI0 k0 => ?_) (fun _ h10 => ?_)
    · try simp only [Bool.and_eq_true] at hI0
      have j0 := hI0
      have e0 := Nat.eq_of_beq_eq_true j0
      subst e0
      exact zpe_el k0 (fun t ht ho => by obtain ⟨t0, t1, t2, t3, t4, t5, t6, t7, t8, t9, t10, t11, t12, t13, t14⟩ := t; exact e_md_orders _ ht ho)
    · cases h10
  · cases h)
