abbrev T_md_findsWay : Type := Int32 × (Nat → Int32) × (Nat → Int32) × Int32
abbrev U_md_findsWay_2 : Type := Int32 × (Nat → Int32)
abbrev U_md_findsWay_120 : Type := Int32 × (Nat → Int32) × (Nat → Int32) × Int32
abbrev U_md_findsWay_43 : Type := Int32 × (Nat → Int32) × (Nat → Int32) × Int32
def b_md_findsWay_120 (x : Int32) (a68 : Nat → Int32) (a88 : Nat → Int32) (a89 : Nat → Int32) (l3 : Int32) (l4 : Int32) (l6 : Int32) (l7 : Int32) (b87 : Nat → Int32) (b90 : Nat → Int32) (c64_40 : Int32) : Option (U_md_findsWay_120 ⊕ (U_md_findsWay_43 ⊕ T_md_findsWay)) :=
  bif decide (4 ≤ l7) then
   bif decide (l6 = 0) then
    some (.inr (.inl (l3 + 1, b87, b90, c64_40)))
   else
    zg (zin l3 192) (
    zg (g_md_visits (2 * l4) (b87 (l3.toNatClampNeg)) b90 c64_40 b87) (
    zl (a0_md_visits (2 * l4) (b87 (l3.toNatClampNeg)) b90 c64_40 b87) (fun v13 =>
    zl (a1_md_visits (2 * l4) (b87 (l3.toNatClampNeg)) b90 c64_40 b87) (fun v14 =>
    zl (f0_md_visits (2 * l4) (b87 (l3.toNatClampNeg)) b90 c64_40 b87) (fun v15 =>
    some (.inr (.inl (l3 + 1, v14, v13, v15))))))))
  else
   zl (w_md_beside l4 l7) (fun v16 =>
   zg (g_md_isWood v16 a68) (
   zl (w_md_isWood v16 a68) (fun v17 =>
   bif decide (v17 = 0) then
    some (.inl (l7 + 1, b87, b90, c64_40))
   else
    bif decide (v16 = x) then
     some (.inl (l7 + 1, b87, b90, c64_40))
    else
     zg (zin l4 96) (
     bif decide (a88 (l4.toNatClampNeg) = v16) then
      some (.inl (l7 + 1, b87, b90, c64_40))
     else
      bif !decide (l4 = x) then
       zg (zin l3 192) (
       zg (g_md_visits (2 * v16) (b87 (l3.toNatClampNeg)) b90 c64_40 b87) (
       zl (a0_md_visits (2 * v16) (b87 (l3.toNatClampNeg)) b90 c64_40 b87) (fun v18 =>
       zl (a1_md_visits (2 * v16) (b87 (l3.toNatClampNeg)) b90 c64_40 b87) (fun v19 =>
       zl (f0_md_visits (2 * v16) (b87 (l3.toNatClampNeg)) b90 c64_40 b87) (fun v20 =>
       some (.inl (l7 + 1, v19, v18, v20)))))))
      else
       zg (zin v16 96) (
       bif decide (a89 (v16.toNatClampNeg) = x) then
        some (.inl (l7 + 1, b87, b90, c64_40))
       else
        zg (zin l3 192) (
        zg (g_md_visits (2 * v16) (b87 (l3.toNatClampNeg)) b90 c64_40 b87) (
        zl (a0_md_visits (2 * v16) (b87 (l3.toNatClampNeg)) b90 c64_40 b87) (fun v21 =>
        zl (a1_md_visits (2 * v16) (b87 (l3.toNatClampNeg)) b90 c64_40 b87) (fun v22 =>
        zl (f0_md_visits (2 * v16) (b87 (l3.toNatClampNeg)) b90 c64_40 b87) (fun v23 =>
        some (.inl (l7 + 1, v22, v21, v23))))))))))))
def f_md_findsWay_120 (x : Int32) (a68 : Nat → Int32) (a88 : Nat → Int32) (a89 : Nat → Int32) (l3 : Int32) (l4 : Int32) (l6 : Int32) : U_md_findsWay_120 → Option (U_md_findsWay_120 ⊕ (U_md_findsWay_43 ⊕ T_md_findsWay)) := fun s => b_md_findsWay_120 x a68 a88 a89 l3 l4 l6 s.1 s.2.1 s.2.2.1 s.2.2.2
noncomputable def l_md_findsWay_120 (x : Int32) (a68 : Nat → Int32) (a88 : Nat → Int32) (a89 : Nat → Int32) (l3 : Int32) (l4 : Int32) (l6 : Int32) (l7 : Int32) (b87 : Nat → Int32) (b90 : Nat → Int32) (c64_40 : Int32) : Option (U_md_findsWay_43 ⊕ T_md_findsWay) := zlp (f_md_findsWay_120 x a68 a88 a89 l3 l4 l6) (l7, b87, b90, c64_40)
noncomputable def b_md_findsWay_43 (x : Int32) (y : Int32) (a68 : Nat → Int32) (a88 : Nat → Int32) (a89 : Nat → Int32) (l3 : Int32) (b87 : Nat → Int32) (b90 : Nat → Int32) (c64_40 : Int32) : Option (U_md_findsWay_43 ⊕ T_md_findsWay) :=
  bif decide (c64_40 ≤ l3) then
   some (.inr (0, b87, b90, c64_40))
  else
   zg (zin l3 192) (
   zg (zin l3 192) (
   bif !decide ((b87 (l3.toNatClampNeg)) - (b87 (l3.toNatClampNeg)) / 2 * 2 = 1) then
    bif !decide ((b87 (l3.toNatClampNeg)) / 2 = y) then
     bif decide ((b87 (l3.toNatClampNeg)) / 2 = x) then
      zg (zin l3 192) (
      zg (g_md_visits ((2 * ((b87 (l3.toNatClampNeg)) / 2)) + 1) (b87 (l3.toNatClampNeg)) b90 c64_40 b87) (
      zl (a0_md_visits ((2 * ((b87 (l3.toNatClampNeg)) / 2)) + 1) (b87 (l3.toNatClampNeg)) b90 c64_40 b87) (fun v4 =>
      zl (a1_md_visits ((2 * ((b87 (l3.toNatClampNeg)) / 2)) + 1) (b87 (l3.toNatClampNeg)) b90 c64_40 b87) (fun v5 =>
      zl (f0_md_visits ((2 * ((b87 (l3.toNatClampNeg)) / 2)) + 1) (b87 (l3.toNatClampNeg)) b90 c64_40 b87) (fun v6 =>
      some (.inl (l3 + 1, v5, v4, v6)))))))
     else
      zg (zin ((b87 (l3.toNatClampNeg)) / 2) 96) (
      bif decide (a89 (((b87 (l3.toNatClampNeg)) / 2).toNatClampNeg) = (-1)) then
       zg (zin l3 192) (
       zg (g_md_visits ((2 * ((b87 (l3.toNatClampNeg)) / 2)) + 1) (b87 (l3.toNatClampNeg)) b90 c64_40 b87) (
       zl (a0_md_visits ((2 * ((b87 (l3.toNatClampNeg)) / 2)) + 1) (b87 (l3.toNatClampNeg)) b90 c64_40 b87) (fun v7 =>
       zl (a1_md_visits ((2 * ((b87 (l3.toNatClampNeg)) / 2)) + 1) (b87 (l3.toNatClampNeg)) b90 c64_40 b87) (fun v8 =>
       zl (f0_md_visits ((2 * ((b87 (l3.toNatClampNeg)) / 2)) + 1) (b87 (l3.toNatClampNeg)) b90 c64_40 b87) (fun v9 =>
       some (.inl (l3 + 1, v8, v7, v9)))))))
      else
       zg (zin ((b87 (l3.toNatClampNeg)) / 2) 96) (
       zg (zin l3 192) (
       zg (g_md_visits ((2 * (a89 (((b87 (l3.toNatClampNeg)) / 2).toNatClampNeg))) + 1) (b87 (l3.toNatClampNeg)) b90 c64_40 b87) (
       zl (a0_md_visits ((2 * (a89 (((b87 (l3.toNatClampNeg)) / 2).toNatClampNeg))) + 1) (b87 (l3.toNatClampNeg)) b90 c64_40 b87) (fun v10 =>
       zl (a1_md_visits ((2 * (a89 (((b87 (l3.toNatClampNeg)) / 2).toNatClampNeg))) + 1) (b87 (l3.toNatClampNeg)) b90 c64_40 b87) (fun v11 =>
       zl (f0_md_visits ((2 * (a89 (((b87 (l3.toNatClampNeg)) / 2).toNatClampNeg))) + 1) (b87 (l3.toNatClampNeg)) b90 c64_40 b87) (fun v12 =>
       some (.inl (l3 + 1, v11, v10, v12)))))))))
    else
     some (.inr (1, b87, b90, c64_40))
   else
    bif !decide ((b87 (l3.toNatClampNeg)) / 2 = y) then
     bif decide ((b87 (l3.toNatClampNeg)) / 2 = x) then
      l_md_findsWay_120 x a68 a88 a89 l3 ((b87 (l3.toNatClampNeg)) / 2) 0 0 b87 b90 c64_40
     else
      zg (zin ((b87 (l3.toNatClampNeg)) / 2) 96) (
      bif decide (a89 (((b87 (l3.toNatClampNeg)) / 2).toNatClampNeg) = (-1)) then
       l_md_findsWay_120 x a68 a88 a89 l3 ((b87 (l3.toNatClampNeg)) / 2) 0 0 b87 b90 c64_40
      else
       l_md_findsWay_120 x a68 a88 a89 l3 ((b87 (l3.toNatClampNeg)) / 2) 1 0 b87 b90 c64_40)
    else
     some (.inr (1, b87, b90, c64_40))))
noncomputable def f_md_findsWay_43 (x : Int32) (y : Int32) (a68 : Nat → Int32) (a88 : Nat → Int32) (a89 : Nat → Int32) : U_md_findsWay_43 → Option (U_md_findsWay_43 ⊕ T_md_findsWay) := fun s => b_md_findsWay_43 x y a68 a88 a89 s.1 s.2.1 s.2.2.1 s.2.2.2
noncomputable def l_md_findsWay_43 (x : Int32) (y : Int32) (a68 : Nat → Int32) (a88 : Nat → Int32) (a89 : Nat → Int32) (l3 : Int32) (b87 : Nat → Int32) (b90 : Nat → Int32) (c64_40 : Int32) : Option T_md_findsWay := zlp (f_md_findsWay_43 x y a68 a88 a89) (l3, b87, b90, c64_40)
noncomputable def b_md_findsWay_2 (x : Int32) (y : Int32) (a68 : Nat → Int32) (a88 : Nat → Int32) (a89 : Nat → Int32) (b87 : Nat → Int32) (l3 : Int32) (b90 : Nat → Int32) : Option (U_md_findsWay_2 ⊕ T_md_findsWay) :=
  bif decide (192 ≤ l3) then
   zg (g_md_visits ((2 * x) + 1) ((2 * x) + 1) b90 0 b87) (
   zl (a0_md_visits ((2 * x) + 1) ((2 * x) + 1) b90 0 b87) (fun v1 =>
   zl (a1_md_visits ((2 * x) + 1) ((2 * x) + 1) b90 0 b87) (fun v2 =>
   zl (f0_md_visits ((2 * x) + 1) ((2 * x) + 1) b90 0 b87) (fun v3 =>
   zbd (l_md_findsWay_43 x y a68 a88 a89 0 v2 v1 v3) (fun k => some (.inr k))))))
  else
   zg (zin l3 192) (
   some (.inl (l3 + 1, (zup b90 (l3.toNatClampNeg) (-1)))))
noncomputable def f_md_findsWay_2 (x : Int32) (y : Int32) (a68 : Nat → Int32) (a88 : Nat → Int32) (a89 : Nat → Int32) (b87 : Nat → Int32) : U_md_findsWay_2 → Option (U_md_findsWay_2 ⊕ T_md_findsWay) := fun s => b_md_findsWay_2 x y a68 a88 a89 b87 s.1 s.2
noncomputable def l_md_findsWay_2 (x : Int32) (y : Int32) (a68 : Nat → Int32) (a88 : Nat → Int32) (a89 : Nat → Int32) (b87 : Nat → Int32) (l3 : Int32) (b90 : Nat → Int32) : Option T_md_findsWay := zlp (f_md_findsWay_2 x y a68 a88 a89 b87) (l3, b90)
noncomputable def q_md_findsWay (x : Int32) (y : Int32) (a68 : Nat → Int32) (a87 : Nat → Int32) (a88 : Nat → Int32) (a89 : Nat → Int32) (a90 : Nat → Int32) (f64_40 : Int32) : Option T_md_findsWay :=
  l_md_findsWay_2 x y a68 a88 a89 a87 0 a90
def P_md_findsWay (Q : Int32 → Int32 → (Nat → Int32) → (Nat → Int32) → (Nat → Int32) → (Nat → Int32) → (Nat → Int32) → Int32 → Option (Int32 × (Nat → Int32) × (Nat → Int32) × Int32)) : zSp := fun as g => match as with
  | [.ref a, .int x, .int y] => bif Nat.beq a 64 then zpe (Q x y (g.1 68) (g.1 87) (g.1 88) (g.1 89) (g.1 90) (g.2.1 64 40)) (fun t => (some (.int (t.1)), ((zua (zua g.1 87 t.2.1) 90 t.2.2.1), (zuf g.2.1 64 40 t.2.2.2), g.2.2))) else none
  | _ => none
noncomputable abbrev S_md_findsWay : zSp := P_md_findsWay q_md_findsWay
theorem hF7_md_findsWay (F : Nat → Nat → Int32) : F = (zuf F 64 40 (F 64 40)) := zufk_ix F [] [((64, 40), none)] rfl
theorem hA6_md_findsWay (F : Nat → Nat → Int32) : F = (zua (zua F 87 (F 87)) 90 (F 90)) := zuak_ix F [] [(87, none), (90, none)] rfl
theorem hA5_md_findsWay (F : Nat → Nat → Int32) (w0 w1 w2 : Nat → Int32) : (zua (zua (zua F 87 w0) 90 w1) 90 w2) = (zua (zua F 87 w0) 90 w2) := zuak_ix F [(87, w0), (90, w1), (90, w2)] [(87, some 0), (90, some 2)] rfl
theorem hF4_md_findsWay (F : Nat → Nat → Int32) (w0 w1 w2 : Int32) : (zuf (zuf (zuf F 64 40 w0) 64 40 w1) 64 40 w2) = (zuf F 64 40 w2) := zufk_ix F [((64, 40), w0), ((64, 40), w1), ((64, 40), w2)] [((64, 40), some 2)] rfl
theorem hF3_md_findsWay (F : Nat → Nat → Int32) (w0 w1 : Int32) : (zuf (zuf F 64 40 w0) 64 40 w1) = (zuf F 64 40 w1) := zufk_ix F [((64, 40), w0), ((64, 40), w1)] [((64, 40), some 1)] rfl
theorem hA2_md_findsWay (F : Nat → Nat → Int32) (w0 w1 w2 w3 : Nat → Int32) : (zua (zua (zua (zua F 87 w0) 90 w1) 90 w2) 87 w3) = (zua (zua F 87 w3) 90 w2) := zuak_ix F [(87, w0), (90, w1), (90, w2), (87, w3)] [(87, some 3), (90, some 2)] rfl
theorem hF1_md_findsWay (F : Nat → Nat → Int32) (w0 : Int32) : (zuf F 64 40 w0) = (zuf F 64 40 w0) := zufk_ix F [((64, 40), w0)] [((64, 40), some 0)] rfl
theorem hA0_md_findsWay (F : Nat → Nat → Int32) (w0 w1 : Nat → Int32) : (zua (zua F 87 w0) 90 w1) = (zua (zua F 87 w0) 90 w1) := zuak_ix F [(87, w0), (90, w1)] [(87, some 0), (90, some 1)] rfl
def O_md_findsWay (ar fi : Nat → Nat → Int32) (m1 : Nat) (m2 : Nat) (m3 : Nat) (m4 : Nat) (m5 : Nat) (t : T_md_findsWay) : zO2 := match t with
  | (t0, t1, t2, t3) => (some (.int (t0)), ((zua (zua ar 87 t1) 90 t2), (zuf fi 64 40 t3), (m1, m2, m3, m4, m5)))
def M_md_findsWay_120 (X : Nat × (Nat → Int32)) (E : zTE) (ar fi : Nat → Nat → Int32) (m1 : Nat) (m2 : Nat) (m3 : Nat) (m4 : Nat) (m5 : Nat) (x : Int32) (y : Int32) (l3 : Int32) (l4 : Int32) (l5 : Int32) (l6 : Int32) (o : zO2) (s : U_md_findsWay_120) : Prop := match s with
  | (l7, b87, b90, c64_40) => zR2 X zFT E zc_225 120 [.ref 64, .int x, .int y, .int l3, .int l4, .int l5, .int l6, .int l7] [] ((zua (zua ar 87 b87) 90 b90), (zuf fi 64 40 c64_40), (m1, m2, m3, m4, m5)) o
def M_md_findsWay_43 (X : Nat × (Nat → Int32)) (E : zTE) (ar fi : Nat → Nat → Int32) (m1 : Nat) (m2 : Nat) (m3 : Nat) (m4 : Nat) (m5 : Nat) (x : Int32) (y : Int32) (o : zO2) (s : U_md_findsWay_43) : Prop := match s with
  | (l3, b87, b90, c64_40) => zR2 X zFT E zc_225 43 [.ref 64, .int x, .int y, .int l3] [] ((zua (zua ar 87 b87) 90 b90), (zuf fi 64 40 c64_40), (m1, m2, m3, m4, m5)) o
def M_md_findsWay_2 (X : Nat × (Nat → Int32)) (E : zTE) (ar fi : Nat → Nat → Int32) (m1 : Nat) (m2 : Nat) (m3 : Nat) (m4 : Nat) (m5 : Nat) (x : Int32) (y : Int32) (b87 : Nat → Int32) (c64_40 : Int32) (o : zO2) (s : U_md_findsWay_2) : Prop := match s with
  | (l3, b90) => zR2 X zFT E zc_225 2 [.ref 64, .int x, .int y, .int l3] [] ((zua (zua ar 87 b87) 90 b90), (zuf fi 64 40 c64_40), (m1, m2, m3, m4, m5)) o
set_option maxRecDepth 1000000 in
theorem t120_md_findsWay {X : Nat × (Nat → Int32)} {ar fi : Nat → Nat → Int32} {m1 m2 m3 m4 m5 : Nat} {x y : Int32} {l3 : Int32} {l4 : Int32} {l5 : Int32} {l6 : Int32} {l7 : Int32} {b87 : Nat → Int32} {b90 : Nat → Int32} {c64_40 : Int32} {G_md_visits : Int32 → Int32 → (Nat → Int32) → Int32 → (Nat → Int32) → Bool} {A0_md_visits : Int32 → Int32 → (Nat → Int32) → Int32 → (Nat → Int32) → Nat → Int32} {A1_md_visits : Int32 → Int32 → (Nat → Int32) → Int32 → (Nat → Int32) → Nat → Int32} {F0_md_visits : Int32 → Int32 → (Nat → Int32) → Int32 → (Nat → Int32) → Int32} {W_md_beside : Int32 → Int32 → Int32} {G_md_isWood : Int32 → (Nat → Int32) → Bool} {W_md_isWood : Int32 → (Nat → Int32) → Int32} : zseg X zFT (zEx 224 (P_md_visits G_md_visits A0_md_visits A1_md_visits F0_md_visits) (zEx 151 (P_md_beside W_md_beside) (zEx 152 (P_md_isWood G_md_isWood W_md_isWood) zE0))) zc_225 (fun p => Nat.beq p 2 || Nat.beq p 120 || Nat.beq p 43) 400 120 [.ref 64, .int x, .int y, .int l3, .int l4, .int l5, .int l6, .int l7] [] ((zua (zua ar 87 b87) 90 b90), (zuf fi 64 40 c64_40), (m1, m2, m3, m4, m5)) = (
  bif decide (4 ≤ l7) then
   bif decide (l6 = 0) then
    some (.inl (43, [.ref 64, .int x, .int y, .int (l3 + 1)], [], ((zua (zua ar 87 b87) 90 b90), (zuf fi 64 40 c64_40), (m1, m2, m3, m4, m5))))
   else
    zg (Nat.beq 16 16 && (zin l3 192)) (
    zg (G_md_visits (2 * l4) (b87 (l3.toNatClampNeg)) b90 c64_40 b87) (
    zl (A0_md_visits (2 * l4) (b87 (l3.toNatClampNeg)) b90 c64_40 b87) (fun v13 =>
    zl (A1_md_visits (2 * l4) (b87 (l3.toNatClampNeg)) b90 c64_40 b87) (fun v14 =>
    zl (F0_md_visits (2 * l4) (b87 (l3.toNatClampNeg)) b90 c64_40 b87) (fun v15 =>
    some (.inl (43, [.ref 64, .int x, .int y, .int (l3 + 1)], [], ((zua (zua (zua (zua ar 87 b87) 90 b90) 90 v13) 87 v14), (zuf (zuf fi 64 40 c64_40) 64 40 v15), (m1, m2, m3, m4, m5)))))))))
  else
   zl (W_md_beside l4 l7) (fun v16 =>
   zg (G_md_isWood v16 (ar 68)) (
   zl (W_md_isWood v16 (ar 68)) (fun v17 =>
   bif decide (v17 = 0) then
    some (.inl (120, [.ref 64, .int x, .int y, .int l3, .int l4, .int l5, .int l6, .int (l7 + 1)], [], ((zua (zua ar 87 b87) 90 b90), (zuf fi 64 40 c64_40), (m1, m2, m3, m4, m5))))
   else
    bif decide (v16 = x) then
     some (.inl (120, [.ref 64, .int x, .int y, .int l3, .int l4, .int l5, .int l6, .int (l7 + 1)], [], ((zua (zua ar 87 b87) 90 b90), (zuf fi 64 40 c64_40), (m1, m2, m3, m4, m5))))
    else
     zg (Nat.beq 16 16 && (zin l4 96)) (
     bif decide ((ar 88) (l4.toNatClampNeg) = v16) then
      some (.inl (120, [.ref 64, .int x, .int y, .int l3, .int l4, .int l5, .int l6, .int (l7 + 1)], [], ((zua (zua ar 87 b87) 90 b90), (zuf fi 64 40 c64_40), (m1, m2, m3, m4, m5))))
     else
      bif !decide (l4 = x) then
       zg (Nat.beq 16 16 && (zin l3 192)) (
       zg (G_md_visits (2 * v16) (b87 (l3.toNatClampNeg)) b90 c64_40 b87) (
       zl (A0_md_visits (2 * v16) (b87 (l3.toNatClampNeg)) b90 c64_40 b87) (fun v18 =>
       zl (A1_md_visits (2 * v16) (b87 (l3.toNatClampNeg)) b90 c64_40 b87) (fun v19 =>
       zl (F0_md_visits (2 * v16) (b87 (l3.toNatClampNeg)) b90 c64_40 b87) (fun v20 =>
       some (.inl (120, [.ref 64, .int x, .int y, .int l3, .int l4, .int l5, .int l6, .int (l7 + 1)], [], ((zua (zua (zua (zua ar 87 b87) 90 b90) 90 v18) 87 v19), (zuf (zuf fi 64 40 c64_40) 64 40 v20), (m1, m2, m3, m4, m5)))))))))
      else
       zg (Nat.beq 16 16 && (zin v16 96)) (
       bif decide ((ar 89) (v16.toNatClampNeg) = x) then
        some (.inl (120, [.ref 64, .int x, .int y, .int l3, .int l4, .int l5, .int l6, .int (l7 + 1)], [], ((zua (zua ar 87 b87) 90 b90), (zuf fi 64 40 c64_40), (m1, m2, m3, m4, m5))))
       else
        zg (Nat.beq 16 16 && (zin l3 192)) (
        zg (G_md_visits (2 * v16) (b87 (l3.toNatClampNeg)) b90 c64_40 b87) (
        zl (A0_md_visits (2 * v16) (b87 (l3.toNatClampNeg)) b90 c64_40 b87) (fun v21 =>
        zl (A1_md_visits (2 * v16) (b87 (l3.toNatClampNeg)) b90 c64_40 b87) (fun v22 =>
        zl (F0_md_visits (2 * v16) (b87 (l3.toNatClampNeg)) b90 c64_40 b87) (fun v23 =>
        some (.inl (120, [.ref 64, .int x, .int y, .int l3, .int l4, .int l5, .int l6, .int (l7 + 1)], [], ((zua (zua (zua (zua ar 87 b87) 90 b90) 90 v21) 87 v22), (zuf (zuf fi 64 40 c64_40) 64 40 v23), (m1, m2, m3, m4, m5)))))))))))))) : Option ((Nat × List Value × List Value × zH2) ⊕ zO2)) := by with_unfolding_all rfl
set_option maxRecDepth 20000 in
theorem k_md_findsWay_120 {X : Nat × (Nat → Int32)} {ar fi : Nat → Nat → Int32} {m1 m2 m3 m4 m5 : Nat} {x y : Int32} {l3 : Int32} {l4 : Int32} {l5 : Int32} {l6 : Int32} {o : zO2} : ∀ (s : U_md_findsWay_120) (q : U_md_findsWay_120 ⊕ (U_md_findsWay_43 ⊕ T_md_findsWay)), f_md_findsWay_120 x (ar 68) (ar 88) (ar 89) l3 l4 l6 s = some q → zq (M_md_findsWay_120 X (zEx 224 S_md_visits (zEx 151 S_md_beside (zEx 152 S_md_isWood zE0))) ar fi m1 m2 m3 m4 m5 x y l3 l4 l5 l6 o) (zq (M_md_findsWay_43 X (zEx 224 S_md_visits (zEx 151 S_md_beside (zEx 152 S_md_isWood zE0))) ar fi m1 m2 m3 m4 m5 x y o) (fun t => O_md_findsWay ar fi m1 m2 m3 m4 m5 t = o)) q → M_md_findsWay_120 X (zEx 224 S_md_visits (zEx 151 S_md_beside (zEx 152 S_md_isWood zE0))) ar fi m1 m2 m3 m4 m5 x y l3 l4 l5 l6 o s := by
  intro s q h hq
  obtain ⟨l7, b87, b90, c64_40⟩ := s
  have h : b_md_findsWay_120 x (ar 68) (ar 88) (ar 89) l3 l4 l6 l7 b87 b90 c64_40 = some q := h
  unfold b_md_findsWay_120 at h
  show zR2 X zFT (zEx 224 S_md_visits (zEx 151 S_md_beside (zEx 152 S_md_isWood zE0))) zc_225 120 [.ref 64, .int x, .int y, .int l3, .int l4, .int l5, .int l6, .int l7] [] ((zua (zua ar 87 b87) 90 b90), (zuf fi 64 40 c64_40), (m1, m2, m3, m4, m5)) o
  refine zT_seg t120_md_findsWay ?_
  obtain ⟨TT, hTT⟩ : ∃ T, T = zT X zFT (zEx 224 S_md_visits (zEx 151 S_md_beside (zEx 152 S_md_isWood zE0))) zc_225 o := ⟨_, rfl⟩
  rw [← hTT]
  refine zb_el h (fun hb h => zU_t hTT hb ?_) (fun hb h => zU_f hTT hb ?_)
  · refine zb_el h (fun hb h => zU_t hTT hb ?_) (fun hb h => zU_f hTT hb ?_)
    · rw [hTT]
      have hz := zsi h hq
      refine zR2_hp ?_ ?_ hz
      · first | with_reducible rfl | exact hA0_md_findsWay _ _ _
      · first | with_reducible rfl | exact hF1_md_findsWay _ _
    · refine zg_el h (fun hg h => zU_ga hTT hg ?_)
      refine zg_el h (fun hg h => zU_g hTT hg ?_)
      refine zl_el h (fun h => zU_l hTT ?_)
      refine zl_el h (fun h => zU_l hTT ?_)
      refine zl_el h (fun h => zU_l hTT ?_)
      rw [hTT]
      have hz := zsi h hq
      refine zR2_hp ?_ ?_ hz
      · first | with_reducible rfl | exact hA2_md_findsWay _ _ _ _ _
      · first | with_reducible rfl | exact hF3_md_findsWay _ _ _
  · refine zl_el h (fun h => zU_l hTT ?_)
    refine zg_el h (fun hg h => zU_g hTT hg ?_)
    refine zl_el h (fun h => zU_l hTT ?_)
    refine zb_el h (fun hb h => zU_t hTT hb ?_) (fun hb h => zU_f hTT hb ?_)
    · rw [hTT]
      have hz := zsi h hq
      refine zR2_hp ?_ ?_ hz
      · first | with_reducible rfl | exact hA0_md_findsWay _ _ _
      · first | with_reducible rfl | exact hF1_md_findsWay _ _
    · refine zb_el h (fun hb h => zU_t hTT hb ?_) (fun hb h => zU_f hTT hb ?_)
      · rw [hTT]
        have hz := zsi h hq
        refine zR2_hp ?_ ?_ hz
        · first | with_reducible rfl | exact hA0_md_findsWay _ _ _
        · first | with_reducible rfl | exact hF1_md_findsWay _ _
      · refine zg_el h (fun hg h => zU_ga hTT hg ?_)
        refine zb_el h (fun hb h => zU_t hTT hb ?_) (fun hb h => zU_f hTT hb ?_)
        · rw [hTT]
          have hz := zsi h hq
          refine zR2_hp ?_ ?_ hz
          · first | with_reducible rfl | exact hA0_md_findsWay _ _ _
          · first | with_reducible rfl | exact hF1_md_findsWay _ _
        · refine zb_el h (fun hb h => zU_t hTT hb ?_) (fun hb h => zU_f hTT hb ?_)
          · refine zg_el h (fun hg h => zU_ga hTT hg ?_)
            refine zg_el h (fun hg h => zU_g hTT hg ?_)
            refine zl_el h (fun h => zU_l hTT ?_)
            refine zl_el h (fun h => zU_l hTT ?_)
            refine zl_el h (fun h => zU_l hTT ?_)
            rw [hTT]
            have hz := zsi h hq
            refine zR2_hp ?_ ?_ hz
            · first | with_reducible rfl | exact hA2_md_findsWay _ _ _ _ _
            · first | with_reducible rfl | exact hF3_md_findsWay _ _ _
          · refine zg_el h (fun hg h => zU_ga hTT hg ?_)
            refine zb_el h (fun hb h => zU_t hTT hb ?_) (fun hb h => zU_f hTT hb ?_)
            · rw [hTT]
              have hz := zsi h hq
              refine zR2_hp ?_ ?_ hz
              · first | with_reducible rfl | exact hA0_md_findsWay _ _ _
              · first | with_reducible rfl | exact hF1_md_findsWay _ _
            · refine zg_el h (fun hg h => zU_ga hTT hg ?_)
              refine zg_el h (fun hg h => zU_g hTT hg ?_)
              refine zl_el h (fun h => zU_l hTT ?_)
              refine zl_el h (fun h => zU_l hTT ?_)
              refine zl_el h (fun h => zU_l hTT ?_)
              rw [hTT]
              have hz := zsi h hq
              refine zR2_hp ?_ ?_ hz
              · first | with_reducible rfl | exact hA2_md_findsWay _ _ _ _ _
              · first | with_reducible rfl | exact hF3_md_findsWay _ _ _
set_option maxRecDepth 1000000 in
theorem t43_md_findsWay {X : Nat × (Nat → Int32)} {ar fi : Nat → Nat → Int32} {m1 m2 m3 m4 m5 : Nat} {x y : Int32} {l3 : Int32} {b87 : Nat → Int32} {b90 : Nat → Int32} {c64_40 : Int32} {G_md_visits : Int32 → Int32 → (Nat → Int32) → Int32 → (Nat → Int32) → Bool} {A0_md_visits : Int32 → Int32 → (Nat → Int32) → Int32 → (Nat → Int32) → Nat → Int32} {A1_md_visits : Int32 → Int32 → (Nat → Int32) → Int32 → (Nat → Int32) → Nat → Int32} {F0_md_visits : Int32 → Int32 → (Nat → Int32) → Int32 → (Nat → Int32) → Int32} {W_md_beside : Int32 → Int32 → Int32} {G_md_isWood : Int32 → (Nat → Int32) → Bool} {W_md_isWood : Int32 → (Nat → Int32) → Int32} : zseg X zFT (zEx 224 (P_md_visits G_md_visits A0_md_visits A1_md_visits F0_md_visits) (zEx 151 (P_md_beside W_md_beside) (zEx 152 (P_md_isWood G_md_isWood W_md_isWood) zE0))) zc_225 (fun p => Nat.beq p 2 || Nat.beq p 120 || Nat.beq p 43) 400 43 [.ref 64, .int x, .int y, .int l3] [] ((zua (zua ar 87 b87) 90 b90), (zuf fi 64 40 c64_40), (m1, m2, m3, m4, m5)) = (
  bif decide (c64_40 ≤ l3) then
   some (.inr (some (.int 0), ((zua (zua ar 87 b87) 90 b90), (zuf fi 64 40 c64_40), (m1, m2, m3, m4, m5))))
  else
   zg (Nat.beq 16 16 && (zin l3 192)) (
   zg (!decide ((2 : Int32) = 0)) (
   zg (Nat.beq 16 16 && (zin l3 192)) (
   zg (!decide ((2 : Int32) = 0)) (
   bif !decide ((b87 (l3.toNatClampNeg)) - (b87 (l3.toNatClampNeg)) / 2 * 2 = 1) then
    bif !decide ((b87 (l3.toNatClampNeg)) / 2 = y) then
     bif decide ((b87 (l3.toNatClampNeg)) / 2 = x) then
      zg (Nat.beq 16 16 && (zin l3 192)) (
      zg (G_md_visits ((2 * ((b87 (l3.toNatClampNeg)) / 2)) + 1) (b87 (l3.toNatClampNeg)) b90 c64_40 b87) (
      zl (A0_md_visits ((2 * ((b87 (l3.toNatClampNeg)) / 2)) + 1) (b87 (l3.toNatClampNeg)) b90 c64_40 b87) (fun v4 =>
      zl (A1_md_visits ((2 * ((b87 (l3.toNatClampNeg)) / 2)) + 1) (b87 (l3.toNatClampNeg)) b90 c64_40 b87) (fun v5 =>
      zl (F0_md_visits ((2 * ((b87 (l3.toNatClampNeg)) / 2)) + 1) (b87 (l3.toNatClampNeg)) b90 c64_40 b87) (fun v6 =>
      some (.inl (43, [.ref 64, .int x, .int y, .int (l3 + 1)], [], ((zua (zua (zua (zua ar 87 b87) 90 b90) 90 v4) 87 v5), (zuf (zuf fi 64 40 c64_40) 64 40 v6), (m1, m2, m3, m4, m5)))))))))
     else
      zg (Nat.beq 16 16 && (zin ((b87 (l3.toNatClampNeg)) / 2) 96)) (
      bif decide ((ar 89) (((b87 (l3.toNatClampNeg)) / 2).toNatClampNeg) = (-1)) then
       zg (Nat.beq 16 16 && (zin l3 192)) (
       zg (G_md_visits ((2 * ((b87 (l3.toNatClampNeg)) / 2)) + 1) (b87 (l3.toNatClampNeg)) b90 c64_40 b87) (
       zl (A0_md_visits ((2 * ((b87 (l3.toNatClampNeg)) / 2)) + 1) (b87 (l3.toNatClampNeg)) b90 c64_40 b87) (fun v7 =>
       zl (A1_md_visits ((2 * ((b87 (l3.toNatClampNeg)) / 2)) + 1) (b87 (l3.toNatClampNeg)) b90 c64_40 b87) (fun v8 =>
       zl (F0_md_visits ((2 * ((b87 (l3.toNatClampNeg)) / 2)) + 1) (b87 (l3.toNatClampNeg)) b90 c64_40 b87) (fun v9 =>
       some (.inl (43, [.ref 64, .int x, .int y, .int (l3 + 1)], [], ((zua (zua (zua (zua ar 87 b87) 90 b90) 90 v7) 87 v8), (zuf (zuf fi 64 40 c64_40) 64 40 v9), (m1, m2, m3, m4, m5)))))))))
      else
       zg (Nat.beq 16 16 && (zin ((b87 (l3.toNatClampNeg)) / 2) 96)) (
       zg (Nat.beq 16 16 && (zin l3 192)) (
       zg (G_md_visits ((2 * ((ar 89) (((b87 (l3.toNatClampNeg)) / 2).toNatClampNeg))) + 1) (b87 (l3.toNatClampNeg)) b90 c64_40 b87) (
       zl (A0_md_visits ((2 * ((ar 89) (((b87 (l3.toNatClampNeg)) / 2).toNatClampNeg))) + 1) (b87 (l3.toNatClampNeg)) b90 c64_40 b87) (fun v10 =>
       zl (A1_md_visits ((2 * ((ar 89) (((b87 (l3.toNatClampNeg)) / 2).toNatClampNeg))) + 1) (b87 (l3.toNatClampNeg)) b90 c64_40 b87) (fun v11 =>
       zl (F0_md_visits ((2 * ((ar 89) (((b87 (l3.toNatClampNeg)) / 2).toNatClampNeg))) + 1) (b87 (l3.toNatClampNeg)) b90 c64_40 b87) (fun v12 =>
       some (.inl (43, [.ref 64, .int x, .int y, .int (l3 + 1)], [], ((zua (zua (zua (zua ar 87 b87) 90 b90) 90 v10) 87 v11), (zuf (zuf fi 64 40 c64_40) 64 40 v12), (m1, m2, m3, m4, m5)))))))))))
    else
     some (.inr (some (.int 1), ((zua (zua ar 87 b87) 90 b90), (zuf fi 64 40 c64_40), (m1, m2, m3, m4, m5))))
   else
    bif !decide ((b87 (l3.toNatClampNeg)) / 2 = y) then
     bif decide ((b87 (l3.toNatClampNeg)) / 2 = x) then
      some (.inl (120, [.ref 64, .int x, .int y, .int l3, .int ((b87 (l3.toNatClampNeg)) / 2), .int 1, .int 0, .int 0], [], ((zua (zua ar 87 b87) 90 b90), (zuf fi 64 40 c64_40), (m1, m2, m3, m4, m5))))
     else
      zg (Nat.beq 16 16 && (zin ((b87 (l3.toNatClampNeg)) / 2) 96)) (
      bif decide ((ar 89) (((b87 (l3.toNatClampNeg)) / 2).toNatClampNeg) = (-1)) then
       some (.inl (120, [.ref 64, .int x, .int y, .int l3, .int ((b87 (l3.toNatClampNeg)) / 2), .int 1, .int 0, .int 0], [], ((zua (zua ar 87 b87) 90 b90), (zuf fi 64 40 c64_40), (m1, m2, m3, m4, m5))))
      else
       some (.inl (120, [.ref 64, .int x, .int y, .int l3, .int ((b87 (l3.toNatClampNeg)) / 2), .int 1, .int 1, .int 0], [], ((zua (zua ar 87 b87) 90 b90), (zuf fi 64 40 c64_40), (m1, m2, m3, m4, m5)))))
    else
     some (.inr (some (.int 1), ((zua (zua ar 87 b87) 90 b90), (zuf fi 64 40 c64_40), (m1, m2, m3, m4, m5)))))))) : Option ((Nat × List Value × List Value × zH2) ⊕ zO2)) := rfl
set_option maxRecDepth 20000 in
theorem k_md_findsWay_43 {X : Nat × (Nat → Int32)} {ar fi : Nat → Nat → Int32} {m1 m2 m3 m4 m5 : Nat} {x y : Int32} {o : zO2} : ∀ (s : U_md_findsWay_43) (q : U_md_findsWay_43 ⊕ T_md_findsWay), f_md_findsWay_43 x y (ar 68) (ar 88) (ar 89) s = some q → zq (M_md_findsWay_43 X (zEx 224 S_md_visits (zEx 151 S_md_beside (zEx 152 S_md_isWood zE0))) ar fi m1 m2 m3 m4 m5 x y o) (fun t => O_md_findsWay ar fi m1 m2 m3 m4 m5 t = o) q → M_md_findsWay_43 X (zEx 224 S_md_visits (zEx 151 S_md_beside (zEx 152 S_md_isWood zE0))) ar fi m1 m2 m3 m4 m5 x y o s := by
  intro s q h hq
  obtain ⟨l3, b87, b90, c64_40⟩ := s
  have h : b_md_findsWay_43 x y (ar 68) (ar 88) (ar 89) l3 b87 b90 c64_40 = some q := h
  unfold b_md_findsWay_43 at h
  show zR2 X zFT (zEx 224 S_md_visits (zEx 151 S_md_beside (zEx 152 S_md_isWood zE0))) zc_225 43 [.ref 64, .int x, .int y, .int l3] [] ((zua (zua ar 87 b87) 90 b90), (zuf fi 64 40 c64_40), (m1, m2, m3, m4, m5)) o
  refine zT_seg t43_md_findsWay ?_
  obtain ⟨TT, hTT⟩ : ∃ T, T = zT X zFT (zEx 224 S_md_visits (zEx 151 S_md_beside (zEx 152 S_md_isWood zE0))) zc_225 o := ⟨_, rfl⟩
  rw [← hTT]
  refine zb_el h (fun hb h => zU_t hTT hb ?_) (fun hb h => zU_f hTT hb ?_)
  · rw [hTT]
    have hz := zsi h hq
    refine (zO_mk ?_ ?_).trans hz
    · first | with_reducible rfl | exact hA0_md_findsWay _ _ _
    · first | with_reducible rfl | exact hF1_md_findsWay _ _
  · refine zg_el h (fun hg h => zU_ga hTT hg ?_)
    refine zU_g hTT rfl ?_
    refine zg_el h (fun hg h => zU_ga hTT hg ?_)
    refine zU_g hTT rfl ?_
    refine zb_el h (fun hb h => zU_t hTT hb ?_) (fun hb h => zU_f hTT hb ?_)
    · refine zb_el h (fun hb h => zU_t hTT hb ?_) (fun hb h => zU_f hTT hb ?_)
      · refine zb_el h (fun hb h => zU_t hTT hb ?_) (fun hb h => zU_f hTT hb ?_)
        · refine zg_el h (fun hg h => zU_ga hTT hg ?_)
          refine zg_el h (fun hg h => zU_g hTT hg ?_)
          refine zl_el h (fun h => zU_l hTT ?_)
          refine zl_el h (fun h => zU_l hTT ?_)
          refine zl_el h (fun h => zU_l hTT ?_)
          rw [hTT]
          have hz := zsi h hq
          refine zR2_hp ?_ ?_ hz
          · first | with_reducible rfl | exact hA2_md_findsWay _ _ _ _ _
          · first | with_reducible rfl | exact hF3_md_findsWay _ _ _
        · refine zg_el h (fun hg h => zU_ga hTT hg ?_)
          refine zb_el h (fun hb h => zU_t hTT hb ?_) (fun hb h => zU_f hTT hb ?_)
          · refine zg_el h (fun hg h => zU_ga hTT hg ?_)
            refine zg_el h (fun hg h => zU_g hTT hg ?_)
            refine zl_el h (fun h => zU_l hTT ?_)
            refine zl_el h (fun h => zU_l hTT ?_)
            refine zl_el h (fun h => zU_l hTT ?_)
            rw [hTT]
            have hz := zsi h hq
            refine zR2_hp ?_ ?_ hz
            · first | with_reducible rfl | exact hA2_md_findsWay _ _ _ _ _
            · first | with_reducible rfl | exact hF3_md_findsWay _ _ _
          · refine zg_el h (fun hg h => zU_ga hTT hg ?_)
            refine zg_el h (fun hg h => zU_ga hTT hg ?_)
            refine zg_el h (fun hg h => zU_g hTT hg ?_)
            refine zl_el h (fun h => zU_l hTT ?_)
            refine zl_el h (fun h => zU_l hTT ?_)
            refine zl_el h (fun h => zU_l hTT ?_)
            rw [hTT]
            have hz := zsi h hq
            refine zR2_hp ?_ ?_ hz
            · first | with_reducible rfl | exact hA2_md_findsWay _ _ _ _ _
            · first | with_reducible rfl | exact hF3_md_findsWay _ _ _
      · rw [hTT]
        have hz := zsi h hq
        refine (zO_mk ?_ ?_).trans hz
        · first | with_reducible rfl | exact hA0_md_findsWay _ _ _
        · first | with_reducible rfl | exact hF1_md_findsWay _ _
    · refine zb_el h (fun hb h => zU_t hTT hb ?_) (fun hb h => zU_f hTT hb ?_)
      · refine zb_el h (fun hb h => zU_t hTT hb ?_) (fun hb h => zU_f hTT hb ?_)
        · rw [hTT]
          refine zR2_hp ?_ ?_ (zlp_K k_md_findsWay_120 h hq)
          · first | with_reducible rfl | exact hA0_md_findsWay _ _ _
          · first | with_reducible rfl | exact hF1_md_findsWay _ _
        · refine zg_el h (fun hg h => zU_ga hTT hg ?_)
          refine zb_el h (fun hb h => zU_t hTT hb ?_) (fun hb h => zU_f hTT hb ?_)
          · rw [hTT]
            refine zR2_hp ?_ ?_ (zlp_K k_md_findsWay_120 h hq)
            · first | with_reducible rfl | exact hA0_md_findsWay _ _ _
            · first | with_reducible rfl | exact hF1_md_findsWay _ _
          · rw [hTT]
            refine zR2_hp ?_ ?_ (zlp_K k_md_findsWay_120 h hq)
            · first | with_reducible rfl | exact hA0_md_findsWay _ _ _
            · first | with_reducible rfl | exact hF1_md_findsWay _ _
      · rw [hTT]
        have hz := zsi h hq
        refine (zO_mk ?_ ?_).trans hz
        · first | with_reducible rfl | exact hA0_md_findsWay _ _ _
        · first | with_reducible rfl | exact hF1_md_findsWay _ _
set_option maxRecDepth 1000000 in
theorem t2_md_findsWay {X : Nat × (Nat → Int32)} {ar fi : Nat → Nat → Int32} {m1 m2 m3 m4 m5 : Nat} {x y : Int32} {l3 : Int32} {b87 : Nat → Int32} {b90 : Nat → Int32} {c64_40 : Int32} {G_md_visits : Int32 → Int32 → (Nat → Int32) → Int32 → (Nat → Int32) → Bool} {A0_md_visits : Int32 → Int32 → (Nat → Int32) → Int32 → (Nat → Int32) → Nat → Int32} {A1_md_visits : Int32 → Int32 → (Nat → Int32) → Int32 → (Nat → Int32) → Nat → Int32} {F0_md_visits : Int32 → Int32 → (Nat → Int32) → Int32 → (Nat → Int32) → Int32} {W_md_beside : Int32 → Int32 → Int32} {G_md_isWood : Int32 → (Nat → Int32) → Bool} {W_md_isWood : Int32 → (Nat → Int32) → Int32} : zseg X zFT (zEx 224 (P_md_visits G_md_visits A0_md_visits A1_md_visits F0_md_visits) (zEx 151 (P_md_beside W_md_beside) (zEx 152 (P_md_isWood G_md_isWood W_md_isWood) zE0))) zc_225 (fun p => Nat.beq p 2 || Nat.beq p 120 || Nat.beq p 43) 400 2 [.ref 64, .int x, .int y, .int l3] [] ((zua (zua ar 87 b87) 90 b90), (zuf fi 64 40 c64_40), (m1, m2, m3, m4, m5)) = (
  bif decide (192 ≤ l3) then
   zg (G_md_visits ((2 * x) + 1) ((2 * x) + 1) b90 0 b87) (
   zl (A0_md_visits ((2 * x) + 1) ((2 * x) + 1) b90 0 b87) (fun v1 =>
   zl (A1_md_visits ((2 * x) + 1) ((2 * x) + 1) b90 0 b87) (fun v2 =>
   zl (F0_md_visits ((2 * x) + 1) ((2 * x) + 1) b90 0 b87) (fun v3 =>
   some (.inl (43, [.ref 64, .int x, .int y, .int 0], [], ((zua (zua (zua (zua ar 87 b87) 90 b90) 90 v1) 87 v2), (zuf (zuf (zuf fi 64 40 c64_40) 64 40 0) 64 40 v3), (m1, m2, m3, m4, m5))))))))
  else
   zg (Nat.beq 16 16 && (zin l3 192)) (
   some (.inl (2, [.ref 64, .int x, .int y, .int (l3 + 1)], [], ((zua (zua (zua ar 87 b87) 90 b90) 90 (zup b90 (l3.toNatClampNeg) (-1))), (zuf fi 64 40 c64_40), (m1, m2, m3, m4, m5))))) : Option ((Nat × List Value × List Value × zH2) ⊕ zO2)) := by with_unfolding_all rfl
set_option maxRecDepth 20000 in
theorem k_md_findsWay_2 {X : Nat × (Nat → Int32)} {ar fi : Nat → Nat → Int32} {m1 m2 m3 m4 m5 : Nat} {x y : Int32} {b87 : Nat → Int32} {c64_40 : Int32} {o : zO2} : ∀ (s : U_md_findsWay_2) (q : U_md_findsWay_2 ⊕ T_md_findsWay), f_md_findsWay_2 x y (ar 68) (ar 88) (ar 89) b87 s = some q → zq (M_md_findsWay_2 X (zEx 224 S_md_visits (zEx 151 S_md_beside (zEx 152 S_md_isWood zE0))) ar fi m1 m2 m3 m4 m5 x y b87 c64_40 o) (fun t => O_md_findsWay ar fi m1 m2 m3 m4 m5 t = o) q → M_md_findsWay_2 X (zEx 224 S_md_visits (zEx 151 S_md_beside (zEx 152 S_md_isWood zE0))) ar fi m1 m2 m3 m4 m5 x y b87 c64_40 o s := by
  intro s q h hq
  obtain ⟨l3, b90⟩ := s
  have h : b_md_findsWay_2 x y (ar 68) (ar 88) (ar 89) b87 l3 b90 = some q := h
  unfold b_md_findsWay_2 at h
  show zR2 X zFT (zEx 224 S_md_visits (zEx 151 S_md_beside (zEx 152 S_md_isWood zE0))) zc_225 2 [.ref 64, .int x, .int y, .int l3] [] ((zua (zua ar 87 b87) 90 b90), (zuf fi 64 40 c64_40), (m1, m2, m3, m4, m5)) o
  refine zT_seg t2_md_findsWay ?_
  obtain ⟨TT, hTT⟩ : ∃ T, T = zT X zFT (zEx 224 S_md_visits (zEx 151 S_md_beside (zEx 152 S_md_isWood zE0))) zc_225 o := ⟨_, rfl⟩
  rw [← hTT]
  refine zb_el h (fun hb h => zU_t hTT hb ?_) (fun hb h => zU_f hTT hb ?_)
  · refine zg_el h (fun hg h => zU_g hTT hg ?_)
    refine zl_el h (fun h => zU_l hTT ?_)
    refine zl_el h (fun h => zU_l hTT ?_)
    refine zl_el h (fun h => zU_l hTT ?_)
    rw [hTT]
    refine zbd_el h (fun r hr h => ?_)
    have hz := zsi h hq
    refine zR2_hp ?_ ?_ (zlp_K k_md_findsWay_43 hr hz)
    · first | with_reducible rfl | exact hA2_md_findsWay _ _ _ _ _
    · first | with_reducible rfl | exact hF4_md_findsWay _ _ _ _
  · refine zg_el h (fun hg h => zU_ga hTT hg ?_)
    rw [hTT]
    have hz := zsi h hq
    refine zR2_hp ?_ ?_ hz
    · first | with_reducible rfl | exact hA5_md_findsWay _ _ _ _
    · first | with_reducible rfl | exact hF1_md_findsWay _ _
set_option maxRecDepth 1000000 in
theorem t_md_findsWay {X : Nat × (Nat → Int32)} {ar fi : Nat → Nat → Int32} {m1 m2 m3 m4 m5 : Nat} {x y : Int32} {G_md_visits : Int32 → Int32 → (Nat → Int32) → Int32 → (Nat → Int32) → Bool} {A0_md_visits : Int32 → Int32 → (Nat → Int32) → Int32 → (Nat → Int32) → Nat → Int32} {A1_md_visits : Int32 → Int32 → (Nat → Int32) → Int32 → (Nat → Int32) → Nat → Int32} {F0_md_visits : Int32 → Int32 → (Nat → Int32) → Int32 → (Nat → Int32) → Int32} {W_md_beside : Int32 → Int32 → Int32} {G_md_isWood : Int32 → (Nat → Int32) → Bool} {W_md_isWood : Int32 → (Nat → Int32) → Int32} : zseg X zFT (zEx 224 (P_md_visits G_md_visits A0_md_visits A1_md_visits F0_md_visits) (zEx 151 (P_md_beside W_md_beside) (zEx 152 (P_md_isWood G_md_isWood W_md_isWood) zE0))) zc_225 (fun p => Nat.beq p 2 || Nat.beq p 120 || Nat.beq p 43) 400 0 [.ref 64, .int x, .int y] [] (ar, fi, (m1, m2, m3, m4, m5)) = (
  some (.inl (2, [.ref 64, .int x, .int y, .int 0], [], (ar, fi, (m1, m2, m3, m4, m5)))) : Option ((Nat × List Value × List Value × zH2) ⊕ zO2)) := by with_unfolding_all rfl
set_option maxRecDepth 20000 in
theorem e_md_findsWay {X : Nat × (Nat → Int32)} {ar fi : Nat → Nat → Int32} {m1 m2 m3 m4 m5 : Nat} {x y : Int32} {o : zO2} : ∀ (q : T_md_findsWay), q_md_findsWay x y (ar 68) (ar 87) (ar 88) (ar 89) (ar 90) (fi 64 40) = some q → (fun t => O_md_findsWay ar fi m1 m2 m3 m4 m5 t = o) q → zR2 X zFT (zEx 224 S_md_visits (zEx 151 S_md_beside (zEx 152 S_md_isWood zE0))) zc_225 0 [.ref 64, .int x, .int y] [] (ar, fi, (m1, m2, m3, m4, m5)) o := by
  intro q h hq
  unfold q_md_findsWay at h
  refine zT_seg t_md_findsWay ?_
  obtain ⟨TT, hTT⟩ : ∃ T, T = zT X zFT (zEx 224 S_md_visits (zEx 151 S_md_beside (zEx 152 S_md_isWood zE0))) zc_225 o := ⟨_, rfl⟩
  rw [← hTT]
  rw [hTT]
  apply zR2_hp ?hA ?hF (zlp_K k_md_findsWay_2 h hq)
  case hA => first | with_reducible rfl | exact hA6_md_findsWay _
  case hF => first | with_reducible rfl | exact hF7_md_findsWay _
theorem ok_md_findsWay (X : Nat × (Nat → Int32)) : zOkS X 225 S_md_findsWay 4 := zOkS_new (zOkE_cons (ok_md_visits X) (by decide) (zOkE_cons (ok_md_beside X) (by decide) (zOkE_cons (ok_md_isWood X) (by decide) (zOkE_nil X 3)))) (by
  intro args g o h
  obtain ⟨ar, fi, m1, m2, m3, m4, m5⟩ := g
  unfold S_md_findsWay P_md_findsWay at h
  split at h
  · refine zb_el h (fun hI0 k0 => ?_) (fun _ h10 => ?_)
    · try simp only [Bool.and_eq_true] at hI0
      have j0 := hI0
      have e0 := Nat.eq_of_beq_eq_true j0
      subst e0
      exact zpe_el k0 (fun t ht ho => by obtain ⟨t0, t1, t2, t3⟩ := t; exact e_md_findsWay _ ht ho)
    · cases h10
  · cases h)
