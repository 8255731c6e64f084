abbrev T_md_findsWay : Type := Int32 × (Nat → Int32) × (Nat → Int32) × Int32
abbrev U_md_findsWay_2 : Type := Int32 × (Nat → Int32)
abbrev U_md_findsWay_120 : Type := Int32 × (Nat → Int32) × (Nat → Int32) × Int32
abbrev U_md_findsWay_43 : Type := Int32 × (Nat → Int32) × (Nat → Int32) × Int32
def b_md_findsWay_120 (x : Int32) (a68 : Nat → Int32) (a88 : Nat → Int32) (a89 : Nat → Int32) (l3 : Int32) (l4 : Int32) (l6 : Int32) (l7 : Int32) (b87 : Nat → Int32) (b90 : Nat → Int32) (c64_40 : Int32) : Option (U_md_findsWay_120 ⊕ (U_md_findsWay_43 ⊕ T_md_findsWay)) :=
  bif decide (4 ≤ l7) then
   bif decide (l6 = 0) then
    some (.inr (.inl (l3 + 1, b87, b90, c64_40)))
   else
    zg (zin l3 192) (
    zg (g_md_visits (2 * l4) (b87 (l3.toNatClampNeg)) b90 c64_40 b87) (
    zl (a0_md_visits (2 * l4) (b87 (l3.toNatClampNeg)) b90 c64_40 b87) (fun v13 =>
    zl (a1_md_visits (2 * l4) (b87 (l3.toNatClampNeg)) b90 c64_40 b87) (fun v14 =>
    zl (f0_md_visits (2 * l4) (b87 (l3.toNatClampNeg)) b90 c64_40 b87) (fun v15 =>
    some (.inr (.inl (l3 + 1, v14, v13, v15))))))))
  else
   zl (w_md_beside l4 l7) (fun v16 =>
   zg (g_md_isWood v16 a68) (
   zl (w_md_isWood v16 a68) (fun v17 =>
   bif decide (v17 = 0) then
    some (.inl (l7 + 1, b87, b90, c64_40))
   else
    bif decide (v16 = x) then
     some (.inl (l7 + 1, b87, b90, c64_40))
    else
     zg (zin l4 96) (
     bif decide (a88 (l4.toNatClampNeg) = v16) then
      some (.inl (l7 + 1, b87, b90, c64_40))
     else
      bif !decide (l4 = x) then
       zg (zin l3 192) (
       zg (g_md_visits (2 * v16) (b87 (l3.toNatClampNeg)) b90 c64_40 b87) (
       zl (a0_md_visits (2 * v16) (b87 (l3.toNatClampNeg)) b90 c64_40 b87) (fun v18 =>
       zl (a1_md_visits (2 * v16) (b87 (l3.toNatClampNeg)) b90 c64_40 b87) (fun v19 =>
       zl (f0_md_visits (2 * v16) (b87 (l3.toNatClampNeg)) b90 c64_40 b87) (fun v20 =>
       some (.inl (l7 + 1, v19, v18, v20)))))))
      else
       zg (zin v16 96) (
       bif decide (a89 (v16.toNatClampNeg) = x) then
        some (.inl (l7 + 1, b87, b90, c64_40))
       else
        zg (zin l3 192) (
        zg (g_md_visits (2 * v16) (b87 (l3.toNatClampNeg)) b90 c64_40 b87) (
        zl (a0_md_visits (2 * v16) (b87 (l3.toNatClampNeg)) b90 c64_40 b87) (fun v21 =>
        zl (a1_md_visits (2 * v16) (b87 (l3.toNatClampNeg)) b90 c64_40 b87) (fun v22 =>
        zl (f0_md_visits (2 * v16) (b87 (l3.toNatClampNeg)) b90 c64_40 b87) (fun v23 =>
        some (.inl (l7 + 1, v22, v21, v23))))))))))))
def f_md_findsWay_120 (x : Int32) (a68 : Nat → Int32) (a88 : Nat → Int32) (a89 : Nat → Int32) (l3 : Int32) (l4 : Int32) (l6 : Int32) : U_md_findsWay_120 → Option (U_md_findsWay_120 ⊕ (U_md_findsWay_43 ⊕ T_md_findsWay)) := fun s => b_md_findsWay_120 x a68 a88 a89 l3 l4 l6 s.1 s.2.1 s.2.2.1 s.2.2.2
noncomputable def l_md_findsWay_120 (x : Int32) (a68 : Nat → Int32) (a88 : Nat → Int32) (a89 : Nat → Int32) (l3 : Int32) (l4 : Int32) (l6 : Int32) (l7 : Int32) (b87 : Nat → Int32) (b90 : Nat → Int32) (c64_40 : Int32) : Option (U_md_findsWay_43 ⊕ T_md_findsWay) := zlp (f_md_findsWay_120 x a68 a88 a89 l3 l4 l6) (l7, b87, b90, c64_40)
noncomputable def b_md_findsWay_43 (x : Int32) (y : Int32) (a68 : Nat → Int32) (a88 : Nat → Int32) (a89 : Nat → Int32) (l3 : Int32) (b87 : Nat → Int32) (b90 : Nat → Int32) (c64_40 : Int32) : Option (U_md_findsWay_43 ⊕ T_md_findsWay) :=
  bif decide (c64_40 ≤ l3) then
   some (.inr (0, b87, b90, c64_40))
  else
   zg (zin l3 192) (
   zg (zin l3 192) (
   bif !decide ((b87 (l3.toNatClampNeg)) - (b87 (l3.toNatClampNeg)) / 2 * 2 = 1) then
    bif !decide ((b87 (l3.toNatClampNeg)) / 2 = y) then
     bif decide ((b87 (l3.toNatClampNeg)) / 2 = x) then
      zg (zin l3 192) (
      zg (g_md_visits ((2 * ((b87 (l3.toNatClampNeg)) / 2)) + 1) (b87 (l3.toNatClampNeg)) b90 c64_40 b87) (
      zl (a0_md_visits ((2 * ((b87 (l3.toNatClampNeg)) / 2)) + 1) (b87 (l3.toNatClampNeg)) b90 c64_40 b87) (fun v4 =>
      zl (a1_md_visits ((2 * ((b87 (l3.toNatClampNeg)) / 2)) + 1) (b87 (l3.toNatClampNeg)) b90 c64_40 b87) (fun v5 =>
      zl (f0_md_visits ((2 * ((b87 (l3.toNatClampNeg)) / 2)) + 1) (b87 (l3.toNatClampNeg)) b90 c64_40 b87) (fun v6 =>
      some (.inl (l3 + 1, v5, v4, v6)))))))
     else
      zg (zin ((b87 (l3.toNatClampNeg)) / 2) 96) (
      bif decide (a89 (((b87 (l3.toNatClampNeg)) / 2).toNatClampNeg) = (-1)) then
       zg (zin l3 192) (
       zg (g_md_visits ((2 * ((b87 (l3.toNatClampNeg)) / 2)) + 1) (b87 (l3.toNatClampNeg)) b90 c64_40 b87) (
       zl (a0_md_visits ((2 * ((b87 (l3.toNatClampNeg)) / 2)) + 1) (b87 (l3.toNatClampNeg)) b90 c64_40 b87) (fun v7 =>
       zl (a1_md_visits ((2 * ((b87 (l3.toNatClampNeg)) / 2)) + 1) (b87 (l3.toNatClampNeg)) b90 c64_40 b87) (fun v8 =>
       zl (f0_md_visits ((2 * ((b87 (l3.toNatClampNeg)) / 2)) + 1) (b87 (l3.toNatClampNeg)) b90 c64_40 b87) (fun v9 =>
       some (.inl (l3 + 1, v8, v7, v9)))))))
      else
       zg (zin ((b87 (l3.toNatClampNeg)) / 2) 96) (
       zg (zin l3 192) (
       zg (g_md_visits ((2 * (a89 (((b87 (l3.toNatClampNeg)) / 2).toNatClampNeg))) + 1) (b87 (l3.toNatClampNeg)) b90 c64_40 b87) (
       zl (a0_md_visits ((2 * (a89 (((b87 (l3.toNatClampNeg)) / 2).toNatClampNeg))) + 1) (b87 (l3.toNatClampNeg)) b90 c64_40 b87) (fun v10 =>
       zl (a1_md_visits ((2 * (a89 (((b87 (l3.toNatClampNeg)) / 2).toNatClampNeg))) + 1) (b87 (l3.toNatClampNeg)) b90 c64_40 b87) (fun v11 =>
       zl (f0_md_visits ((2 * (a89 (((b87 (l3.toNatClampNeg)) / 2).toNatClampNeg))) + 1) (b87 (l3.toNatClampNeg)) b90 c64_40 b87) (fun v12 =>
       some (.inl (l3 + 1, v11, v10, v12)))))))))
    else
     some (.inr (1, b87, b90, c64_40))
   else
    bif !decide ((b87 (l3.toNatClampNeg)) / 2 = y) then
     bif decide ((b87 (l3.toNatClampNeg)) / 2 = x) then
      l_md_findsWay_120 x a68 a88 a89 l3 ((b87 (l3.toNatClampNeg)) / 2) 0 0 b87 b90 c64_40
     else
      zg (zin ((b87 (l3.toNatClampNeg)) / 2) 96) (
      bif decide (a89 (((b87 (l3.toNatClampNeg)) / 2).toNatClampNeg) = (-1)) then
       l_md_findsWay_120 x a68 a88 a89 l3 ((b87 (l3.toNatClampNeg)) / 2) 0 0 b87 b90 c64_40
      else
       l_md_findsWay_120 x a68 a88 a89 l3 ((b87 (l3.toNatClampNeg)) / 2) 1 0 b87 b90 c64_40)
    else
     some (.inr (1, b87, b90, c64_40))))
noncomputable def f_md_findsWay_43 (x : Int32) (y : Int32) (a68 : Nat → Int32) (a88 : Nat → Int32) (a89 : Nat → Int32) : U_md_findsWay_43 → Option (U_md_findsWay_43 ⊕ T_md_findsWay) := fun s => b_md_findsWay_43 x y a68 a88 a89 s.1 s.2.1 s.2.2.1 s.2.2.2
noncomputable def l_md_findsWay_43 (x : Int32) (y : Int32) (a68 : Nat → Int32) (a88 : Nat → Int32) (a89 : Nat → Int32) (l3 : Int32) (b87 : Nat → Int32) (b90 : Nat → Int32) (c64_40 : Int32) : Option T_md_findsWay := zlp (f_md_findsWay_43 x y a68 a88 a89) (l3, b87, b90, c64_40)
noncomputable def b_md_findsWay_2 (x : Int32) (y : Int32) (a68 : Nat → Int32) (a88 : Nat → Int32) (a89 : Nat → Int32) (b87 : Nat → Int32) (l3 : Int32) (b90 : Nat → Int32) : Option (U_md_findsWay_2 ⊕ T_md_findsWay) :=
  bif decide (192 ≤ l3) then
   zg (g_md_visits ((2 * x) + 1) ((2 * x) + 1) b90 0 b87) (
   zl (a0_md_visits ((2 * x) + 1) ((2 * x) + 1) b90 0 b87) (fun v1 =>
   zl (a1_md_visits ((2 * x) + 1) ((2 * x) + 1) b90 0 b87) (fun v2 =>
   zl (f0_md_visits ((2 * x) + 1) ((2 * x) + 1) b90 0 b87) (fun v3 =>
   zbd (l_md_findsWay_43 x y a68 a88 a89 0 v2 v1 v3) (fun k => some (.inr k))))))
  else
   zg (zin l3 192) (
   some (.inl (l3 + 1, (zup b90 (l3.toNatClampNeg) (-1)))))
noncomputable def f_md_findsWay_2 (x : Int32) (y : Int32) (a68 : Nat → Int32) (a88 : Nat → Int32) (a89 : Nat → Int32) (b87 : Nat → Int32) : U_md_findsWay_2 → Option (U_md_findsWay_2 ⊕ T_md_findsWay) := fun s => b_md_findsWay_2 x y a68 a88 a89 b87 s.1 s.2
noncomputable def l_md_findsWay_2 (x : Int32) (y : Int32) (a68 : Nat → Int32) (a88 : Nat → Int32) (a89 : Nat → Int32) (b87 : Nat → Int32) (l3 : Int32) (b90 : Nat → Int32) : Option T_md_findsWay := zlp (f_md_findsWay_2 x y a68 a88 a89 b87) (l3, b90)
noncomputable def q_md_findsWay (x : Int32) (y : Int32) (a68 : Nat → Int32) (a87 : Nat → Int32) (a88 : Nat → Int32) (a89 : Nat → Int32) (a90 : Nat → Int32) (f64_40 : Int32) : Option T_md_findsWay :=
  l_md_findsWay_2 x y a68 a88 a89 a87 0 a90
def P_md_findsWay (Q : Int32 → Int32 → (Nat → Int32) → (Nat → Int32) → (Nat → Int32) → (Nat → Int32) → (Nat → Int32) → Int32 → Option (Int32 × (Nat → Int32) × (Nat → Int32) × Int32)) : zSp := fun as g => match as with
  | [.ref a, .int x, .int y] => bif Nat.beq a 64 then zpe (Q x y (g.1 68) (g.1 87) (g.1 88) (g.1 89) (g.1 90) (g.2.1 64 40)) (fun t => (some (.int (t.1)), ((zua (zua g.1 87 t.2.1) 90 t.2.2.1), (zuf g.2.1 64 40 t.2.2.2), g.2.2))) else none
  | _ => none
noncomputable abbrev S_md_findsWay : zSp := P_md_findsWay q_md_findsWay
def O_md_findsWay (ar fi : Nat → Nat → Int32) (m1 : Nat) (m2 : Nat) (m3 : Nat) (m4 : Nat) (m5 : Nat) (t : T_md_findsWay) : zO2 := (some (.int (t.1)), ((zua (zua ar 87 t.2.1) 90 t.2.2.1), (zuf fi 64 40 t.2.2.2), (m1, m2, m3, m4, m5)))
def M_md_findsWay_120 (X : Nat × (Nat → Int32)) (E : zTE) (ar fi : Nat → Nat → Int32) (m1 : Nat) (m2 : Nat) (m3 : Nat) (m4 : Nat) (m5 : Nat) (x : Int32) (y : Int32) (l3 : Int32) (l4 : Int32) (l5 : Int32) (l6 : Int32) (o : zO2) (s : U_md_findsWay_120) : Prop := zR2 X zFT E zc_225 120 [.ref 64, .int x, .int y, .int l3, .int l4, .int l5, .int l6, .int s.1] [] ((zua (zua ar 87 s.2.1) 90 s.2.2.1), (zuf fi 64 40 s.2.2.2), (m1, m2, m3, m4, m5)) o
def M_md_findsWay_43 (X : Nat × (Nat → Int32)) (E : zTE) (ar fi : Nat → Nat → Int32) (m1 : Nat) (m2 : Nat) (m3 : Nat) (m4 : Nat) (m5 : Nat) (x : Int32) (y : Int32) (o : zO2) (s : U_md_findsWay_43) : Prop := zR2 X zFT E zc_225 43 [.ref 64, .int x, .int y, .int s.1] [] ((zua (zua ar 87 s.2.1) 90 s.2.2.1), (zuf fi 64 40 s.2.2.2), (m1, m2, m3, m4, m5)) o
def M_md_findsWay_2 (X : Nat × (Nat → Int32)) (E : zTE) (ar fi : Nat → Nat → Int32) (m1 : Nat) (m2 : Nat) (m3 : Nat) (m4 : Nat) (m5 : Nat) (x : Int32) (y : Int32) (b87 : Nat → Int32) (c64_40 : Int32) (o : zO2) (s : U_md_findsWay_2) : Prop := zR2 X zFT E zc_225 2 [.ref 64, .int x, .int y, .int s.1] [] ((zua (zua ar 87 b87) 90 s.2), (zuf fi 64 40 c64_40), (m1, m2, m3, m4, m5)) o
set_option maxRecDepth 20000 in
theorem t120_md_findsWay {X : Nat × (Nat → Int32)} {ar fi : Nat → Nat → Int32} {m1 m2 m3 m4 m5 : Nat} {x y : Int32} {l3 : Int32} {l4 : Int32} {l5 : Int32} {l6 : Int32} {l7 : Int32} {b87 : Nat → Int32} {b90 : Nat → Int32} {c64_40 : Int32} {G_md_visits : Int32 → Int32 → (Nat → Int32) → Int32 → (Nat → Int32) → Bool} {A0_md_visits : Int32 → Int32 → (Nat → Int32) → Int32 → (Nat → Int32) → Nat → Int32} {A1_md_visits : Int32 → Int32 → (Nat → Int32) → Int32 → (Nat → Int32) → Nat → Int32} {F0_md_visits : Int32 → Int32 → (Nat → Int32) → Int32 → (Nat → Int32) → Int32} {W_md_beside : Int32 → Int32 → Int32} {G_md_isWood : Int32 → (Nat → Int32) → Bool} {W_md_isWood : Int32 → (Nat → Int32) → Int32} : zseg X zFT (zEx 224 (P_md_visits G_md_visits A0_md_visits A1_md_visits F0_md_visits) (zEx 151 (P_md_beside W_md_beside) (zEx 152 (P_md_isWood G_md_isWood W_md_isWood) zE0))) zc_225 (fun p => Nat.beq p 2 || Nat.beq p 120 || Nat.beq p 43) 400 120 [.ref 64, .int x, .int y, .int l3, .int l4, .int l5, .int l6, .int l7] [] ((zua (zua ar 87 b87) 90 b90), (zuf fi 64 40 c64_40), (m1, m2, m3, m4, m5)) = (
  bif decide (4 ≤ l7) then
   bif decide (l6 = 0) then
    some (.inl (43, [.ref 64, .int x, .int y, .int (l3 + 1)], [], ((zua (zua ar 87 b87) 90 b90), (zuf fi 64 40 c64_40), (m1, m2, m3, m4, m5))))
   else
    zg (zin l3 192) (
    zg (G_md_visits (2 * l4) (b87 (l3.toNatClampNeg)) b90 c64_40 b87) (
    zl (A0_md_visits (2 * l4) (b87 (l3.toNatClampNeg)) b90 c64_40 b87) (fun v13 =>
    zl (A1_md_visits (2 * l4) (b87 (l3.toNatClampNeg)) b90 c64_40 b87) (fun v14 =>
    zl (F0_md_visits (2 * l4) (b87 (l3.toNatClampNeg)) b90 c64_40 b87) (fun v15 =>
    some (.inl (43, [.ref 64, .int x, .int y, .int (l3 + 1)], [], ((zua (zua (zua (zua ar 87 b87) 90 b90) 90 v13) 87 v14), (zuf (zuf fi 64 40 c64_40) 64 40 v15), (m1, m2, m3, m4, m5)))))))))
  else
   zl (W_md_beside l4 l7) (fun v16 =>
   zg (G_md_isWood v16 (ar 68)) (
   zl (W_md_isWood v16 (ar 68)) (fun v17 =>
   bif decide (v17 = 0) then
    some (.inl (120, [.ref 64, .int x, .int y, .int l3, .int l4, .int l5, .int l6, .int (l7 + 1)], [], ((zua (zua ar 87 b87) 90 b90), (zuf fi 64 40 c64_40), (m1, m2, m3, m4, m5))))
   else
    bif decide (v16 = x) then
     some (.inl (120, [.ref 64, .int x, .int y, .int l3, .int l4, .int l5, .int l6, .int (l7 + 1)], [], ((zua (zua ar 87 b87) 90 b90), (zuf fi 64 40 c64_40), (m1, m2, m3, m4, m5))))
    else
     zg (zin l4 96) (
     bif decide ((ar 88) (l4.toNatClampNeg) = v16) then
      some (.inl (120, [.ref 64, .int x, .int y, .int l3, .int l4, .int l5, .int l6, .int (l7 + 1)], [], ((zua (zua ar 87 b87) 90 b90), (zuf fi 64 40 c64_40), (m1, m2, m3, m4, m5))))
     else
      bif !decide (l4 = x) then
       zg (zin l3 192) (
       zg (G_md_visits (2 * v16) (b87 (l3.toNatClampNeg)) b90 c64_40 b87) (
       zl (A0_md_visits (2 * v16) (b87 (l3.toNatClampNeg)) b90 c64_40 b87) (fun v18 =>
       zl (A1_md_visits (2 * v16) (b87 (l3.toNatClampNeg)) b90 c64_40 b87) (fun v19 =>
       zl (F0_md_visits (2 * v16) (b87 (l3.toNatClampNeg)) b90 c64_40 b87) (fun v20 =>
       some (.inl (120, [.ref 64, .int x, .int y, .int l3, .int l4, .int l5, .int l6, .int (l7 + 1)], [], ((zua (zua (zua (zua ar 87 b87) 90 b90) 90 v18) 87 v19), (zuf (zuf fi 64 40 c64_40) 64 40 v20), (m1, m2, m3, m4, m5)))))))))
      else
       zg (zin v16 96) (
       bif decide ((ar 89) (v16.toNatClampNeg) = x) then
        some (.inl (120, [.ref 64, .int x, .int y, .int l3, .int l4, .int l5, .int l6, .int (l7 + 1)], [], ((zua (zua ar 87 b87) 90 b90), (zuf fi 64 40 c64_40), (m1, m2, m3, m4, m5))))
       else
        zg (zin l3 192) (
        zg (G_md_visits (2 * v16) (b87 (l3.toNatClampNeg)) b90 c64_40 b87) (
        zl (A0_md_visits (2 * v16) (b87 (l3.toNatClampNeg)) b90 c64_40 b87) (fun v21 =>
        zl (A1_md_visits (2 * v16) (b87 (l3.toNatClampNeg)) b90 c64_40 b87) (fun v22 =>
        zl (F0_md_visits (2 * v16) (b87 (l3.toNatClampNeg)) b90 c64_40 b87) (fun v23 =>
        some (.inl (120, [.ref 64, .int x, .int y, .int l3, .int l4, .int l5, .int l6, .int (l7 + 1)], [], ((zua (zua (zua (zua ar 87 b87) 90 b90) 90 v21) 87 v22), (zuf (zuf fi 64 40 c64_40) 64 40 v23), (m1, m2, m3, m4, m5)))))))))))))) : Option ((Nat × List Value × List Value × zH2) ⊕ zO2)) := rfl
theorem k_md_findsWay_120 {X : Nat × (Nat → Int32)} {ar fi : Nat → Nat → Int32} {m1 m2 m3 m4 m5 : Nat} {x y : Int32} {l3 : Int32} {l4 : Int32} {l5 : Int32} {l6 : Int32} {o : zO2} : ∀ (s : U_md_findsWay_120) (q : U_md_findsWay_120 ⊕ (U_md_findsWay_43 ⊕ T_md_findsWay)), f_md_findsWay_120 x (ar 68) (ar 88) (ar 89) l3 l4 l6 s = some q → zq (M_md_findsWay_120 X (zEx 224 S_md_visits (zEx 151 S_md_beside (zEx 152 S_md_isWood zE0))) ar fi m1 m2 m3 m4 m5 x y l3 l4 l5 l6 o) (zq (M_md_findsWay_43 X (zEx 224 S_md_visits (zEx 151 S_md_beside (zEx 152 S_md_isWood zE0))) ar fi m1 m2 m3 m4 m5 x y o) (fun t => O_md_findsWay ar fi m1 m2 m3 m4 m5 t = o)) q → M_md_findsWay_120 X (zEx 224 S_md_visits (zEx 151 S_md_beside (zEx 152 S_md_isWood zE0))) ar fi m1 m2 m3 m4 m5 x y l3 l4 l5 l6 o s := by
  intro s q h hq
  obtain ⟨l7, b87, b90, c64_40⟩ := s
  have h : b_md_findsWay_120 x (ar 68) (ar 88) (ar 89) l3 l4 l6 l7 b87 b90 c64_40 = some q := h
  unfold b_md_findsWay_120 at h
  show zR2 X zFT (zEx 224 S_md_visits (zEx 151 S_md_beside (zEx 152 S_md_isWood zE0))) zc_225 120 [.ref 64, .int x, .int y, .int l3, .int l4, .int l5, .int l6, .int l7] [] ((zua (zua ar 87 b87) 90 b90), (zuf fi 64 40 c64_40), (m1, m2, m3, m4, m5)) o
  refine zT_seg t120_md_findsWay ?_
  refine zb_el h (fun hb h => zT_t hb ?_) (fun hb h => zT_f hb ?_)
  · refine zb_el h (fun hb h => zT_t hb ?_) (fun hb h => zT_f hb ?_)
    · have hz := zsi h hq
      refine zR2_hp ?_ ?_ hz
      · first | with_reducible rfl | (exact zuas_eq _ [(87, _), (90, _)] [(87, _), (90, _)] [87, 90] rfl rfl ⟨rfl, rfl, trivial⟩)
      · first | with_reducible rfl | (exact zufs_eq _ [(64, 40, _)] [(64, 40, _)] [(64, 40)] rfl rfl ⟨rfl, trivial⟩)
    · refine zg_el h (fun hg h => zT_g hg ?_)
      refine zg_el h (fun hg h => zT_g hg ?_)
      refine zl_el h (fun h => zT_l ?_)
      refine zl_el h (fun h => zT_l ?_)
      refine zl_el h (fun h => zT_l ?_)
      have hz := zsi h hq
      refine zR2_hp ?_ ?_ hz
      · first | with_reducible rfl | (exact zuas_eq _ [(87, _), (90, _), (90, _), (87, _)] [(87, _), (90, _)] [87, 90] rfl rfl ⟨rfl, rfl, trivial⟩)
      · first | with_reducible rfl | (exact zufs_eq _ [(64, 40, _), (64, 40, _)] [(64, 40, _)] [(64, 40)] rfl rfl ⟨rfl, trivial⟩)
  · refine zl_el h (fun h => zT_l ?_)
    refine zg_el h (fun hg h => zT_g hg ?_)
    refine zl_el h (fun h => zT_l ?_)
    refine zb_el h (fun hb h => zT_t hb ?_) (fun hb h => zT_f hb ?_)
    · have hz := zsi h hq
      refine zR2_hp ?_ ?_ hz
      · first | with_reducible rfl | (exact zuas_eq _ [(87, _), (90, _)] [(87, _), (90, _)] [87, 90] rfl rfl ⟨rfl, rfl, trivial⟩)
      · first | with_reducible rfl | (exact zufs_eq _ [(64, 40, _)] [(64, 40, _)] [(64, 40)] rfl rfl ⟨rfl, trivial⟩)
    · refine zb_el h (fun hb h => zT_t hb ?_) (fun hb h => zT_f hb ?_)
      · have hz := zsi h hq
        refine zR2_hp ?_ ?_ hz
        · first | with_reducible rfl | (exact zuas_eq _ [(87, _), (90, _)] [(87, _), (90, _)] [87, 90] rfl rfl ⟨rfl, rfl, trivial⟩)
        · first | with_reducible rfl | (exact zufs_eq _ [(64, 40, _)] [(64, 40, _)] [(64, 40)] rfl rfl ⟨rfl, trivial⟩)
      · refine zg_el h (fun hg h => zT_g hg ?_)
        refine zb_el h (fun hb h => zT_t hb ?_) (fun hb h => zT_f hb ?_)
        · have hz := zsi h hq
          refine zR2_hp ?_ ?_ hz
          · first | with_reducible rfl | (exact zuas_eq _ [(87, _), (90, _)] [(87, _), (90, _)] [87, 90] rfl rfl ⟨rfl, rfl, trivial⟩)
          · first | with_reducible rfl | (exact zufs_eq _ [(64, 40, _)] [(64, 40, _)] [(64, 40)] rfl rfl ⟨rfl, trivial⟩)
        · refine zb_el h (fun hb h => zT_t hb ?_) (fun hb h => zT_f hb ?_)
          · refine zg_el h (fun hg h => zT_g hg ?_)
            refine zg_el h (fun hg h => zT_g hg ?_)
            refine zl_el h (fun h => zT_l ?_)
            refine zl_el h (fun h => zT_l ?_)
            refine zl_el h (fun h => zT_l ?_)
            have hz := zsi h hq
            refine zR2_hp ?_ ?_ hz
            · first | with_reducible rfl | (exact zuas_eq _ [(87, _), (90, _), (90, _), (87, _)] [(87, _), (90, _)] [87, 90] rfl rfl ⟨rfl, rfl, trivial⟩)
            · first | with_reducible rfl | (exact zufs_eq _ [(64, 40, _), (64, 40, _)] [(64, 40, _)] [(64, 40)] rfl rfl ⟨rfl, trivial⟩)
          · refine zg_el h (fun hg h => zT_g hg ?_)
            refine zb_el h (fun hb h => zT_t hb ?_) (fun hb h => zT_f hb ?_)
            · have hz := zsi h hq
              refine zR2_hp ?_ ?_ hz
              · first | with_reducible rfl | (exact zuas_eq _ [(87, _), (90, _)] [(87, _), (90, _)] [87, 90] rfl rfl ⟨rfl, rfl, trivial⟩)
              · first | with_reducible rfl | (exact zufs_eq _ [(64, 40, _)] [(64, 40, _)] [(64, 40)] rfl rfl ⟨rfl, trivial⟩)
            · refine zg_el h (fun hg h => zT_g hg ?_)
              refine zg_el h (fun hg h => zT_g hg ?_)
              refine zl_el h (fun h => zT_l ?_)
              refine zl_el h (fun h => zT_l ?_)
              refine zl_el h (fun h => zT_l ?_)
              have hz := zsi h hq
              refine zR2_hp ?_ ?_ hz
              · first | with_reducible rfl | (exact zuas_eq _ [(87, _), (90, _), (90, _), (87, _)] [(87, _), (90, _)] [87, 90] rfl rfl ⟨rfl, rfl, trivial⟩)
              · first | with_reducible rfl | (exact zufs_eq _ [(64, 40, _), (64, 40, _)] [(64, 40, _)] [(64, 40)] rfl rfl ⟨rfl, trivial⟩)
set_option maxRecDepth 20000 in
theorem t43_md_findsWay {X : Nat × (Nat → Int32)} {ar fi : Nat → Nat → Int32} {m1 m2 m3 m4 m5 : Nat} {x y : Int32} {l3 : Int32} {b87 : Nat → Int32} {b90 : Nat → Int32} {c64_40 : Int32} {G_md_visits : Int32 → Int32 → (Nat → Int32) → Int32 → (Nat → Int32) → Bool} {A0_md_visits : Int32 → Int32 → (Nat → Int32) → Int32 → (Nat → Int32) → Nat → Int32} {A1_md_visits : Int32 → Int32 → (Nat → Int32) → Int32 → (Nat → Int32) → Nat → Int32} {F0_md_visits : Int32 → Int32 → (Nat → Int32) → Int32 → (Nat → Int32) → Int32} {W_md_beside : Int32 → Int32 → Int32} {G_md_isWood : Int32 → (Nat → Int32) → Bool} {W_md_isWood : Int32 → (Nat → Int32) → Int32} : zseg X zFT (zEx 224 (P_md_visits G_md_visits A0_md_visits A1_md_visits F0_md_visits) (zEx 151 (P_md_beside W_md_beside) (zEx 152 (P_md_isWood G_md_isWood W_md_isWood) zE0))) zc_225 (fun p => Nat.beq p 2 || Nat.beq p 120 || Nat.beq p 43) 400 43 [.ref 64, .int x, .int y, .int l3] [] ((zua (zua ar 87 b87) 90 b90), (zuf fi 64 40 c64_40), (m1, m2, m3, m4, m5)) = (
  bif decide (c64_40 ≤ l3) then
   some (.inr (some (.int 0), ((zua (zua ar 87 b87) 90 b90), (zuf fi 64 40 c64_40), (m1, m2, m3, m4, m5))))
  else
   zg (zin l3 192) (
   zg (zin l3 192) (
   bif !decide ((b87 (l3.toNatClampNeg)) - (b87 (l3.toNatClampNeg)) / 2 * 2 = 1) then
    bif !decide ((b87 (l3.toNatClampNeg)) / 2 = y) then
     bif decide ((b87 (l3.toNatClampNeg)) / 2 = x) then
      zg (zin l3 192) (
      zg (G_md_visits ((2 * ((b87 (l3.toNatClampNeg)) / 2)) + 1) (b87 (l3.toNatClampNeg)) b90 c64_40 b87) (
      zl (A0_md_visits ((2 * ((b87 (l3.toNatClampNeg)) / 2)) + 1) (b87 (l3.toNatClampNeg)) b90 c64_40 b87) (fun v4 =>
      zl (A1_md_visits ((2 * ((b87 (l3.toNatClampNeg)) / 2)) + 1) (b87 (l3.toNatClampNeg)) b90 c64_40 b87) (fun v5 =>
      zl (F0_md_visits ((2 * ((b87 (l3.toNatClampNeg)) / 2)) + 1) (b87 (l3.toNatClampNeg)) b90 c64_40 b87) (fun v6 =>
      some (.inl (43, [.ref 64, .int x, .int y, .int (l3 + 1)], [], ((zua (zua (zua (zua ar 87 b87) 90 b90) 90 v4) 87 v5), (zuf (zuf fi 64 40 c64_40) 64 40 v6), (m1, m2, m3, m4, m5)))))))))
     else
      zg (zin ((b87 (l3.toNatClampNeg)) / 2) 96) (
      bif decide ((ar 89) (((b87 (l3.toNatClampNeg)) / 2).toNatClampNeg) = (-1)) then
       zg (zin l3 192) (
       zg (G_md_visits ((2 * ((b87 (l3.toNatClampNeg)) / 2)) + 1) (b87 (l3.toNatClampNeg)) b90 c64_40 b87) (
       zl (A0_md_visits ((2 * ((b87 (l3.toNatClampNeg)) / 2)) + 1) (b87 (l3.toNatClampNeg)) b90 c64_40 b87) (fun v7 =>
       zl (A1_md_visits ((2 * ((b87 (l3.toNatClampNeg)) / 2)) + 1) (b87 (l3.toNatClampNeg)) b90 c64_40 b87) (fun v8 =>
       zl (F0_md_visits ((2 * ((b87 (l3.toNatClampNeg)) / 2)) + 1) (b87 (l3.toNatClampNeg)) b90 c64_40 b87) (fun v9 =>
       some (.inl (43, [.ref 64, .int x, .int y, .int (l3 + 1)], [], ((zua (zua (zua (zua ar 87 b87) 90 b90) 90 v7) 87 v8), (zuf (zuf fi 64 40 c64_40) 64 40 v9), (m1, m2, m3, m4, m5)))))))))
      else
       zg (zin ((b87 (l3.toNatClampNeg)) / 2) 96) (
       zg (zin l3 192) (
       zg (G_md_visits ((2 * ((ar 89) (((b87 (l3.toNatClampNeg)) / 2).toNatClampNeg))) + 1) (b87 (l3.toNatClampNeg)) b90 c64_40 b87) (
       zl (A0_md_visits ((2 * ((ar 89) (((b87 (l3.toNatClampNeg)) / 2).toNatClampNeg))) + 1) (b87 (l3.toNatClampNeg)) b90 c64_40 b87) (fun v10 =>
       zl (A1_md_visits ((2 * ((ar 89) (((b87 (l3.toNatClampNeg)) / 2).toNatClampNeg))) + 1) (b87 (l3.toNatClampNeg)) b90 c64_40 b87) (fun v11 =>
       zl (F0_md_visits ((2 * ((ar 89) (((b87 (l3.toNatClampNeg)) / 2).toNatClampNeg))) + 1) (b87 (l3.toNatClampNeg)) b90 c64_40 b87) (fun v12 =>
       some (.inl (43, [.ref 64, .int x, .int y, .int (l3 + 1)], [], ((zua (zua (zua (zua ar 87 b87) 90 b90) 90 v10) 87 v11), (zuf (zuf fi 64 40 c64_40) 64 40 v12), (m1, m2, m3, m4, m5)))))))))))
    else
     some (.inr (some (.int 1), ((zua (zua ar 87 b87) 90 b90), (zuf fi 64 40 c64_40), (m1, m2, m3, m4, m5))))
   else
    bif !decide ((b87 (l3.toNatClampNeg)) / 2 = y) then
     bif decide ((b87 (l3.toNatClampNeg)) / 2 = x) then
      some (.inl (120, [.ref 64, .int x, .int y, .int l3, .int ((b87 (l3.toNatClampNeg)) / 2), .int 1, .int 0, .int 0], [], ((zua (zua ar 87 b87) 90 b90), (zuf fi 64 40 c64_40), (m1, m2, m3, m4, m5))))
     else
      zg (zin ((b87 (l3.toNatClampNeg)) / 2) 96) (
      bif decide ((ar 89) (((b87 (l3.toNatClampNeg)) / 2).toNatClampNeg) = (-1)) then
       some (.inl (120, [.ref 64, .int x, .int y, .int l3, .int ((b87 (l3.toNatClampNeg)) / 2), .int 1, .int 0, .int 0], [], ((zua (zua ar 87 b87) 90 b90), (zuf fi 64 40 c64_40), (m1, m2, m3, m4, m5))))
      else
       some (.inl (120, [.ref 64, .int x, .int y, .int l3, .int ((b87 (l3.toNatClampNeg)) / 2), .int 1, .int 1, .int 0], [], ((zua (zua ar 87 b87) 90 b90), (zuf fi 64 40 c64_40), (m1, m2, m3, m4, m5)))))
    else
     some (.inr (some (.int 1), ((zua (zua ar 87 b87) 90 b90), (zuf fi 64 40 c64_40), (m1, m2, m3, m4, m5)))))) : Option ((Nat × List Value × List Value × zH2) ⊕ zO2)) := rfl
theorem k_md_findsWay_43 {X : Nat × (Nat → Int32)} {ar fi : Nat → Nat → Int32} {m1 m2 m3 m4 m5 : Nat} {x y : Int32} {o : zO2} : ∀ (s : U_md_findsWay_43) (q : U_md_findsWay_43 ⊕ T_md_findsWay), f_md_findsWay_43 x y (ar 68) (ar 88) (ar 89) s = some q → zq (M_md_findsWay_43 X (zEx 224 S_md_visits (zEx 151 S_md_beside (zEx 152 S_md_isWood zE0))) ar fi m1 m2 m3 m4 m5 x y o) (fun t => O_md_findsWay ar fi m1 m2 m3 m4 m5 t = o) q → M_md_findsWay_43 X (zEx 224 S_md_visits (zEx 151 S_md_beside (zEx 152 S_md_isWood zE0))) ar fi m1 m2 m3 m4 m5 x y o s := by
  intro s q h hq
  obtain ⟨l3, b87, b90, c64_40⟩ := s
  have h : b_md_findsWay_43 x y (ar 68) (ar 88) (ar 89) l3 b87 b90 c64_40 = some q := h
  unfold b_md_findsWay_43 at h
  show zR2 X zFT (zEx 224 S_md_visits (zEx 151 S_md_beside (zEx 152 S_md_isWood zE0))) zc_225 43 [.ref 64, .int x, .int y, .int l3] [] ((zua (zua ar 87 b87) 90 b90), (zuf fi 64 40 c64_40), (m1, m2, m3, m4, m5)) o
  refine zT_seg t43_md_findsWay ?_
  refine zb_el h (fun hb h => zT_t hb ?_) (fun hb h => zT_f hb ?_)
  · have hz := zsi h hq
    refine (zO_mk ?_ ?_).trans hz
    · first | with_reducible rfl | (exact zuas_eq _ [(87, _), (90, _)] [(87, _), (90, _)] [87, 90] rfl rfl ⟨rfl, rfl, trivial⟩)
    · first | with_reducible rfl | (exact zufs_eq _ [(64, 40, _)] [(64, 40, _)] [(64, 40)] rfl rfl ⟨rfl, trivial⟩)
  · refine zg_el h (fun hg h => zT_g hg ?_)
    refine zg_el h (fun hg h => zT_g hg ?_)
    refine zb_el h (fun hb h => zT_t hb ?_) (fun hb h => zT_f hb ?_)
    · refine zb_el h (fun hb h => zT_t hb ?_) (fun hb h => zT_f hb ?_)
      · refine zb_el h (fun hb h => zT_t hb ?_) (fun hb h => zT_f hb ?_)
        · refine zg_el h (fun hg h => zT_g hg ?_)
          refine zg_el h (fun hg h => zT_g hg ?_)
          refine zl_el h (fun h => zT_l ?_)
          refine zl_el h (fun h => zT_l ?_)
          refine zl_el h (fun h => zT_l ?_)
          have hz := zsi h hq
          refine zR2_hp ?_ ?_ hz
          · first | with_reducible rfl | (exact zuas_eq _ [(87, _), (90, _), (90, _), (87, _)] [(87, _), (90, _)] [87, 90] rfl rfl ⟨rfl, rfl, trivial⟩)
          · first | with_reducible rfl | (exact zufs_eq _ [(64, 40, _), (64, 40, _)] [(64, 40, _)] [(64, 40)] rfl rfl ⟨rfl, trivial⟩)
        · refine zg_el h (fun hg h => zT_g hg ?_)
          refine zb_el h (fun hb h => zT_t hb ?_) (fun hb h => zT_f hb ?_)
          · refine zg_el h (fun hg h => zT_g hg ?_)
            refine zg_el h (fun hg h => zT_g hg ?_)
            refine zl_el h (fun h => zT_l ?_)
            refine zl_el h (fun h => zT_l ?_)
            refine zl_el h (fun h => zT_l ?_)
            have hz := zsi h hq
            refine zR2_hp ?_ ?_ hz
            · first | with_reducible rfl | (exact zuas_eq _ [(87, _), (90, _), (90, _), (87, _)] [(87, _), (90, _)] [87, 90] rfl rfl ⟨rfl, rfl, trivial⟩)
            · first | with_reducible rfl | (exact zufs_eq _ [(64, 40, _), (64, 40, _)] [(64, 40, _)] [(64, 40)] rfl rfl ⟨rfl, trivial⟩)
          · refine zg_el h (fun hg h => zT_g hg ?_)
            refine zg_el h (fun hg h => zT_g hg ?_)
            refine zg_el h (fun hg h => zT_g hg ?_)
            refine zl_el h (fun h => zT_l ?_)
            refine zl_el h (fun h => zT_l ?_)
            refine zl_el h (fun h => zT_l ?_)
            have hz := zsi h hq
            refine zR2_hp ?_ ?_ hz
            · first | with_reducible rfl | (exact zuas_eq _ [(87, _), (90, _), (90, _), (87, _)] [(87, _), (90, _)] [87, 90] rfl rfl ⟨rfl, rfl, trivial⟩)
            · first | with_reducible rfl | (exact zufs_eq _ [(64, 40, _), (64, 40, _)] [(64, 40, _)] [(64, 40)] rfl rfl ⟨rfl, trivial⟩)
      · have hz := zsi h hq
        refine (zO_mk ?_ ?_).trans hz
        · first | with_reducible rfl | (exact zuas_eq _ [(87, _), (90, _)] [(87, _), (90, _)] [87, 90] rfl rfl ⟨rfl, rfl, trivial⟩)
        · first | with_reducible rfl | (exact zufs_eq _ [(64, 40, _)] [(64, 40, _)] [(64, 40)] rfl rfl ⟨rfl, trivial⟩)
    · refine zb_el h (fun hb h => zT_t hb ?_) (fun hb h => zT_f hb ?_)
      · refine zb_el h (fun hb h => zT_t hb ?_) (fun hb h => zT_f hb ?_)
        · refine zR2_hp ?_ ?_ (zlp_K k_md_findsWay_120 h hq)
          · first | with_reducible rfl | (exact zuas_eq _ [(87, _), (90, _)] [(87, _), (90, _)] [87, 90] rfl rfl ⟨rfl, rfl, trivial⟩)
          · first | with_reducible rfl | (exact zufs_eq _ [(64, 40, _)] [(64, 40, _)] [(64, 40)] rfl rfl ⟨rfl, trivial⟩)
        · refine zg_el h (fun hg h => zT_g hg ?_)
          refine zb_el h (fun hb h => zT_t hb ?_) (fun hb h => zT_f hb ?_)
          · refine zR2_hp ?_ ?_ (zlp_K k_md_findsWay_120 h hq)
            · first | with_reducible rfl | (exact zuas_eq _ [(87, _), (90, _)] [(87, _), (90, _)] [87, 90] rfl rfl ⟨rfl, rfl, trivial⟩)
            · first | with_reducible rfl | (exact zufs_eq _ [(64, 40, _)] [(64, 40, _)] [(64, 40)] rfl rfl ⟨rfl, trivial⟩)
          · refine zR2_hp ?_ ?_ (zlp_K k_md_findsWay_120 h hq)
            · first | with_reducible rfl | (exact zuas_eq _ [(87, _), (90, _)] [(87, _), (90, _)] [87, 90] rfl rfl ⟨rfl, rfl, trivial⟩)
            · first | with_reducible rfl | (exact zufs_eq _ [(64, 40, _)] [(64, 40, _)] [(64, 40)] rfl rfl ⟨rfl, trivial⟩)
      · have hz := zsi h hq
        refine (zO_mk ?_ ?_).trans hz
        · first | with_reducible rfl | (exact zuas_eq _ [(87, _), (90, _)] [(87, _), (90, _)] [87, 90] rfl rfl ⟨rfl, rfl, trivial⟩)
        · first | with_reducible rfl | (exact zufs_eq _ [(64, 40, _)] [(64, 40, _)] [(64, 40)] rfl rfl ⟨rfl, trivial⟩)
set_option maxRecDepth 20000 in
theorem t2_md_findsWay {X : Nat × (Nat → Int32)} {ar fi : Nat → Nat → Int32} {m1 m2 m3 m4 m5 : Nat} {x y : Int32} {l3 : Int32} {b87 : Nat → Int32} {b90 : Nat → Int32} {c64_40 : Int32} {G_md_visits : Int32 → Int32 → (Nat → Int32) → Int32 → (Nat → Int32) → Bool} {A0_md_visits : Int32 → Int32 → (Nat → Int32) → Int32 → (Nat → Int32) → Nat → Int32} {A1_md_visits : Int32 → Int32 → (Nat → Int32) → Int32 → (Nat → Int32) → Nat → Int32} {F0_md_visits : Int32 → Int32 → (Nat → Int32) → Int32 → (Nat → Int32) → Int32} {W_md_beside : Int32 → Int32 → Int32} {G_md_isWood : Int32 → (Nat → Int32) → Bool} {W_md_isWood : Int32 → (Nat → Int32) → Int32} : zseg X zFT (zEx 224 (P_md_visits G_md_visits A0_md_visits A1_md_visits F0_md_visits) (zEx 151 (P_md_beside W_md_beside) (zEx 152 (P_md_isWood G_md_isWood W_md_isWood) zE0))) zc_225 (fun p => Nat.beq p 2 || Nat.beq p 120 || Nat.beq p 43) 400 2 [.ref 64, .int x, .int y, .int l3] [] ((zua (zua ar 87 b87) 90 b90), (zuf fi 64 40 c64_40), (m1, m2, m3, m4, m5)) = (
  bif decide (192 ≤ l3) then
   zg (G_md_visits ((2 * x) + 1) ((2 * x) + 1) b90 0 b87) (
   zl (A0_md_visits ((2 * x) + 1) ((2 * x) + 1) b90 0 b87) (fun v1 =>
   zl (A1_md_visits ((2 * x) + 1) ((2 * x) + 1) b90 0 b87) (fun v2 =>
   zl (F0_md_visits ((2 * x) + 1) ((2 * x) + 1) b90 0 b87) (fun v3 =>
   some (.inl (43, [.ref 64, .int x, .int y, .int 0], [], ((zua (zua (zua (zua ar 87 b87) 90 b90) 90 v1) 87 v2), (zuf (zuf (zuf fi 64 40 c64_40) 64 40 0) 64 40 v3), (m1, m2, m3, m4, m5))))))))
  else
   zg (zin l3 192) (
   some (.inl (2, [.ref 64, .int x, .int y, .int (l3 + 1)], [], ((zua (zua (zua ar 87 b87) 90 b90) 90 (zup b90 (l3.toNatClampNeg) (-1))), (zuf fi 64 40 c64_40), (m1, m2, m3, m4, m5))))) : Option ((Nat × List Value × List Value × zH2) ⊕ zO2)) := rfl
theorem k_md_findsWay_2 {X : Nat × (Nat → Int32)} {ar fi : Nat → Nat → Int32} {m1 m2 m3 m4 m5 : Nat} {x y : Int32} {b87 : Nat → Int32} {c64_40 : Int32} {o : zO2} : ∀ (s : U_md_findsWay_2) (q : U_md_findsWay_2 ⊕ T_md_findsWay), f_md_findsWay_2 x y (ar 68) (ar 88) (ar 89) b87 s = some q → zq (M_md_findsWay_2 X (zEx 224 S_md_visits (zEx 151 S_md_beside (zEx 152 S_md_isWood zE0))) ar fi m1 m2 m3 m4 m5 x y b87 c64_40 o) (fun t => O_md_findsWay ar fi m1 m2 m3 m4 m5 t = o) q → M_md_findsWay_2 X (zEx 224 S_md_visits (zEx 151 S_md_beside (zEx 152 S_md_isWood zE0))) ar fi m1 m2 m3 m4 m5 x y b87 c64_40 o s := by
  intro s q h hq
  obtain ⟨l3, b90⟩ := s
  have h : b_md_findsWay_2 x y (ar 68) (ar 88) (ar 89) b87 l3 b90 = some q := h
  unfold b_md_findsWay_2 at h
  show zR2 X zFT (zEx 224 S_md_visits (zEx 151 S_md_beside (zEx 152 S_md_isWood zE0))) zc_225 2 [.ref 64, .int x, .int y, .int l3] [] ((zua (zua ar 87 b87) 90 b90), (zuf fi 64 40 c64_40), (m1, m2, m3, m4, m5)) o
  refine zT_seg t2_md_findsWay ?_
  refine zb_el h (fun hb h => zT_t hb ?_) (fun hb h => zT_f hb ?_)
  · refine zg_el h (fun hg h => zT_g hg ?_)
    refine zl_el h (fun h => zT_l ?_)
    refine zl_el h (fun h => zT_l ?_)
    refine zl_el h (fun h => zT_l ?_)
    refine zbd_el h (fun r hr h => ?_)
    have hz := zsi h hq
    refine zR2_hp ?_ ?_ (zlp_K k_md_findsWay_43 hr hz)
    · first | with_reducible rfl | (exact zuas_eq _ [(87, _), (90, _), (90, _), (87, _)] [(87, _), (90, _)] [87, 90] rfl rfl ⟨rfl, rfl, trivial⟩)
    · first | with_reducible rfl | (exact zufs_eq _ [(64, 40, _), (64, 40, _), (64, 40, _)] [(64, 40, _)] [(64, 40)] rfl rfl ⟨rfl, trivial⟩)
  · refine zg_el h (fun hg h => zT_g hg ?_)
    have hz := zsi h hq
    refine zR2_hp ?_ ?_ hz
    · first | with_reducible rfl | (exact zuas_eq _ [(87, _), (90, _), (90, _)] [(87, _), (90, _)] [87, 90] rfl rfl ⟨rfl, rfl, trivial⟩)
    · first | with_reducible rfl | (exact zufs_eq _ [(64, 40, _)] [(64, 40, _)] [(64, 40)] rfl rfl ⟨rfl, trivial⟩)
set_option maxRecDepth 20000 in
theorem t_md_findsWay {X : Nat × (Nat → Int32)} {ar fi : Nat → Nat → Int32} {m1 m2 m3 m4 m5 : Nat} {x y : Int32} {G_md_visits : Int32 → Int32 → (Nat → Int32) → Int32 → (Nat → Int32) → Bool} {A0_md_visits : Int32 → Int32 → (Nat → Int32) → Int32 → (Nat → Int32) → Nat → Int32} {A1_md_visits : Int32 → Int32 → (Nat → Int32) → Int32 → (Nat → Int32) → Nat → Int32} {F0_md_visits : Int32 → Int32 → (Nat → Int32) → Int32 → (Nat → Int32) → Int32} {W_md_beside : Int32 → Int32 → Int32} {G_md_isWood : Int32 → (Nat → Int32) → Bool} {W_md_isWood : Int32 → (Nat → Int32) → Int32} : zseg X zFT (zEx 224 (P_md_visits G_md_visits A0_md_visits A1_md_visits F0_md_visits) (zEx 151 (P_md_beside W_md_beside) (zEx 152 (P_md_isWood G_md_isWood W_md_isWood) zE0))) zc_225 (fun p => Nat.beq p 2 || Nat.beq p 120 || Nat.beq p 43) 400 0 [.ref 64, .int x, .int y] [] (ar, fi, (m1, m2, m3, m4, m5)) = (
  some (.inl (2, [.ref 64, .int x, .int y, .int 0], [], (ar, fi, (m1, m2, m3, m4, m5)))) : Option ((Nat × List Value × List Value × zH2) ⊕ zO2)) := rfl
theorem e_md_findsWay {X : Nat × (Nat → Int32)} {ar fi : Nat → Nat → Int32} {m1 m2 m3 m4 m5 : Nat} {x y : Int32} {o : zO2} : ∀ (q : T_md_findsWay), q_md_findsWay x y (ar 68) (ar 87) (ar 88) (ar 89) (ar 90) (fi 64 40) = some q → (fun t => O_md_findsWay ar fi m1 m2 m3 m4 m5 t = o) q → zR2 X zFT (zEx 224 S_md_visits (zEx 151 S_md_beside (zEx 152 S_md_isWood zE0))) zc_225 0 [.ref 64, .int x, .int y] [] (ar, fi, (m1, m2, m3, m4, m5)) o := by
  intro q h hq
  unfold q_md_findsWay at h
  refine zT_seg t_md_findsWay ?_
  refine zR2_hp ?_ ?_ (zlp_K k_md_findsWay_2 h hq)
  · first | with_reducible rfl | (exact zuas_eq _ [] [(87, _), (90, _)] [87, 90] rfl rfl ⟨rfl, rfl, trivial⟩)
  · first | with_reducible rfl | (exact zufs_eq _ [] [(64, 40, _)] [(64, 40)] rfl rfl ⟨rfl, trivial⟩)
theorem ok_md_findsWay (X : Nat × (Nat → Int32)) : zOkS X 225 S_md_findsWay 4 := zOkS_new (zOkE_cons (ok_md_visits X) (by decide) (zOkE_cons (ok_md_beside X) (by decide) (zOkE_cons (ok_md_isWood X) (by decide) (zOkE_nil X 3)))) (by
  intro args g o h
  obtain ⟨ar, fi, m1, m2, m3, m4, m5⟩ := g
  unfold S_md_findsWay P_md_findsWay at h
  split at h
  · refine zb_el h (fun hI0 k0 => ?_) (fun _ h10 => ?_)
    · try simp only [Bool.and_eq_true] at hI0
      have j0 := hI0
      have e0 := Nat.eq_of_beq_eq_true j0
      subst e0
      exact zpe_el k0 (fun t ht ho => e_md_findsWay t ht ho)
    · cases h10
  · cases h)
abbrev T_md_goesAlong : Type := (Nat → Int32) × (Nat → Int32) × (Nat → Int32)
abbrev U_md_goesAlong_52 : Type := Int32 × (Nat → Int32) × (Nat → Int32)
abbrev U_md_goesAlong_151 : Type := Int32 × (Nat → Int32) × (Nat → Int32)
abbrev U_md_goesAlong_7 : Type := Int32 × Int32 × (Nat → Int32)
def b_md_goesAlong_151 (x : Int32) (y : Int32) (b91 : Nat → Int32) (l5 : Int32) (b88 : Nat → Int32) (b89 : Nat → Int32) : Option (U_md_goesAlong_151 ⊕ T_md_goesAlong) :=
  bif decide (l5 ≤ 0) then
   some (.inr (b88, b89, b91))
  else
   zg (zin l5 192) (
   zg (zin (l5 - 1) 192) (
   bif decide ((b91 (l5.toNatClampNeg)) - (b91 (l5.toNatClampNeg)) / 2 * 2 = 0) then
    some (.inl (l5 + (-1), b88, b89))
   else
    bif decide ((b91 ((l5 - 1).toNatClampNeg)) - (b91 ((l5 - 1).toNatClampNeg)) / 2 * 2 = 1) then
     some (.inl (l5 + (-1), b88, b89))
    else
     bif !decide ((b91 (l5.toNatClampNeg)) / 2 = (b91 ((l5 - 1).toNatClampNeg)) / 2) then
      bif decide ((b91 (l5.toNatClampNeg)) / 2 = x) then
       bif decide ((b91 ((l5 - 1).toNatClampNeg)) / 2 = y) then
        some (.inl (l5 + (-1), b88, b89))
       else
        zg (zin ((b91 ((l5 - 1).toNatClampNeg)) / 2) 96) (
        some (.inl (l5 + (-1), b88, (zup b89 (((b91 ((l5 - 1).toNatClampNeg)) / 2).toNatClampNeg) ((b91 (l5.toNatClampNeg)) / 2)))))
      else
       zg (zin ((b91 (l5.toNatClampNeg)) / 2) 96) (
       bif decide ((b91 ((l5 - 1).toNatClampNeg)) / 2 = y) then
        some (.inl (l5 + (-1), (zup b88 (((b91 (l5.toNatClampNeg)) / 2).toNatClampNeg) ((b91 ((l5 - 1).toNatClampNeg)) / 2)), b89))
       else
        zg (zin ((b91 ((l5 - 1).toNatClampNeg)) / 2) 96) (
        some (.inl (l5 + (-1), (zup b88 (((b91 (l5.toNatClampNeg)) / 2).toNatClampNeg) ((b91 ((l5 - 1).toNatClampNeg)) / 2)), (zup b89 (((b91 ((l5 - 1).toNatClampNeg)) / 2).toNatClampNeg) ((b91 (l5.toNatClampNeg)) / 2))))))
     else
      some (.inl (l5 + (-1), b88, b89))))
def f_md_goesAlong_151 (x : Int32) (y : Int32) (b91 : Nat → Int32) : U_md_goesAlong_151 → Option (U_md_goesAlong_151 ⊕ T_md_goesAlong) := fun s => b_md_goesAlong_151 x y b91 s.1 s.2.1 s.2.2
noncomputable def l_md_goesAlong_151 (x : Int32) (y : Int32) (b91 : Nat → Int32) (l5 : Int32) (b88 : Nat → Int32) (b89 : Nat → Int32) : Option T_md_goesAlong := zlp (f_md_goesAlong_151 x y b91) (l5, b88, b89)
noncomputable def b_md_goesAlong_52 (x : Int32) (y : Int32) (l3 : Int32) (b91 : Nat → Int32) (l5 : Int32) (b88 : Nat → Int32) (b89 : Nat → Int32) : Option (U_md_goesAlong_52 ⊕ T_md_goesAlong) :=
  bif decide (l5 ≤ 0) then
   zbd (l_md_goesAlong_151 x y b91 l3 b88 b89) (fun k => some (.inr k))
  else
   zg (zin l5 192) (
   zg (zin (l5 - 1) 192) (
   bif decide ((b91 (l5.toNatClampNeg)) - (b91 (l5.toNatClampNeg)) / 2 * 2 = 1) then
    some (.inl (l5 + (-1), b88, b89))
   else
    bif decide ((b91 ((l5 - 1).toNatClampNeg)) - (b91 ((l5 - 1).toNatClampNeg)) / 2 * 2 = 0) then
     some (.inl (l5 + (-1), b88, b89))
    else
     bif !decide ((b91 (l5.toNatClampNeg)) / 2 = (b91 ((l5 - 1).toNatClampNeg)) / 2) then
      zg (zin ((b91 ((l5 - 1).toNatClampNeg)) / 2) 96) (
      bif !decide (b88 (((b91 ((l5 - 1).toNatClampNeg)) / 2).toNatClampNeg) = (b91 (l5.toNatClampNeg)) / 2) then
       zg (zin ((b91 (l5.toNatClampNeg)) / 2) 96) (
       some (.inl (l5 + (-1), b88, (zup b89 (((b91 (l5.toNatClampNeg)) / 2).toNatClampNeg) (-1)))))
      else
       zg (zin ((b91 ((l5 - 1).toNatClampNeg)) / 2) 96) (
       zg (zin ((b91 (l5.toNatClampNeg)) / 2) 96) (
       some (.inl (l5 + (-1), (zup b88 (((b91 ((l5 - 1).toNatClampNeg)) / 2).toNatClampNeg) (-1)), (zup b89 (((b91 (l5.toNatClampNeg)) / 2).toNatClampNeg) (-1)))))))
     else
      some (.inl (l5 + (-1), b88, b89))))
noncomputable def f_md_goesAlong_52 (x : Int32) (y : Int32) (l3 : Int32) (b91 : Nat → Int32) : U_md_goesAlong_52 → Option (U_md_goesAlong_52 ⊕ T_md_goesAlong) := fun s => b_md_goesAlong_52 x y l3 b91 s.1 s.2.1 s.2.2
noncomputable def l_md_goesAlong_52 (x : Int32) (y : Int32) (l3 : Int32) (b91 : Nat → Int32) (l5 : Int32) (b88 : Nat → Int32) (b89 : Nat → Int32) : Option T_md_goesAlong := zlp (f_md_goesAlong_52 x y l3 b91) (l5, b88, b89)
noncomputable def b_md_goesAlong_7 (x : Int32) (y : Int32) (a90 : Nat → Int32) (b88 : Nat → Int32) (b89 : Nat → Int32) (l3 : Int32) (l4 : Int32) (b91 : Nat → Int32) : Option (U_md_goesAlong_7 ⊕ T_md_goesAlong) :=
  bif decide (l4 = (2 * x) + 1) then
   zg (zin l3 192) (
   zbd (l_md_goesAlong_52 x y l3 (zup b91 (l3.toNatClampNeg) l4) l3 b88 b89) (fun k => some (.inr k)))
  else
   zg (zin l3 192) (
   zg (zin l4 192) (
   some (.inl (l3 + 1, a90 (l4.toNatClampNeg), (zup b91 (l3.toNatClampNeg) l4)))))
noncomputable def f_md_goesAlong_7 (x : Int32) (y : Int32) (a90 : Nat → Int32) (b88 : Nat → Int32) (b89 : Nat → Int32) : U_md_goesAlong_7 → Option (U_md_goesAlong_7 ⊕ T_md_goesAlong) := fun s => b_md_goesAlong_7 x y a90 b88 b89 s.1 s.2.1 s.2.2
noncomputable def l_md_goesAlong_7 (x : Int32) (y : Int32) (a90 : Nat → Int32) (b88 : Nat → Int32) (b89 : Nat → Int32) (l3 : Int32) (l4 : Int32) (b91 : Nat → Int32) : Option T_md_goesAlong := zlp (f_md_goesAlong_7 x y a90 b88 b89) (l3, l4, b91)
noncomputable def q_md_goesAlong (x : Int32) (y : Int32) (a88 : Nat → Int32) (a89 : Nat → Int32) (a90 : Nat → Int32) (a91 : Nat → Int32) : Option T_md_goesAlong :=
  l_md_goesAlong_7 x y a90 a88 a89 0 (2 * y) a91
def P_md_goesAlong (Q : Int32 → Int32 → (Nat → Int32) → (Nat → Int32) → (Nat → Int32) → (Nat → Int32) → Option ((Nat → Int32) × (Nat → Int32) × (Nat → Int32))) : zSp := fun as g => match as with
  | [.ref a, .int x, .int y] => bif Nat.beq a 64 then zpe (Q x y (g.1 88) (g.1 89) (g.1 90) (g.1 91)) (fun t => (none, ((zua (zua (zua g.1 88 t.1) 89 t.2.1) 91 t.2.2), g.2.1, g.2.2))) else none
  | _ => none
noncomputable abbrev S_md_goesAlong : zSp := P_md_goesAlong q_md_goesAlong
def O_md_goesAlong (ar fi : Nat → Nat → Int32) (m1 : Nat) (m2 : Nat) (m3 : Nat) (m4 : Nat) (m5 : Nat) (t : T_md_goesAlong) : zO2 := (none, ((zua (zua (zua ar 88 t.1) 89 t.2.1) 91 t.2.2), fi, (m1, m2, m3, m4, m5)))
def M_md_goesAlong_151 (X : Nat × (Nat → Int32)) (E : zTE) (ar fi : Nat → Nat → Int32) (m1 : Nat) (m2 : Nat) (m3 : Nat) (m4 : Nat) (m5 : Nat) (x : Int32) (y : Int32) (l3 : Int32) (l4 : Int32) (b91 : Nat → Int32) (o : zO2) (s : U_md_goesAlong_151) : Prop := zR2 X zFT E zc_227 151 [.ref 64, .int x, .int y, .int l3, .int l4, .int s.1] [] ((zua (zua (zua ar 88 s.2.1) 89 s.2.2) 91 b91), fi, (m1, m2, m3, m4, m5)) o
def M_md_goesAlong_52 (X : Nat × (Nat → Int32)) (E : zTE) (ar fi : Nat → Nat → Int32) (m1 : Nat) (m2 : Nat) (m3 : Nat) (m4 : Nat) (m5 : Nat) (x : Int32) (y : Int32) (l3 : Int32) (l4 : Int32) (b91 : Nat → Int32) (o : zO2) (s : U_md_goesAlong_52) : Prop := zR2 X zFT E zc_227 52 [.ref 64, .int x, .int y, .int l3, .int l4, .int s.1] [] ((zua (zua (zua ar 88 s.2.1) 89 s.2.2) 91 b91), fi, (m1, m2, m3, m4, m5)) o
def M_md_goesAlong_7 (X : Nat × (Nat → Int32)) (E : zTE) (ar fi : Nat → Nat → Int32) (m1 : Nat) (m2 : Nat) (m3 : Nat) (m4 : Nat) (m5 : Nat) (x : Int32) (y : Int32) (b88 : Nat → Int32) (b89 : Nat → Int32) (o : zO2) (s : U_md_goesAlong_7) : Prop := zR2 X zFT E zc_227 7 [.ref 64, .int x, .int y, .int s.1, .int s.2.1] [] ((zua (zua (zua ar 88 b88) 89 b89) 91 s.2.2), fi, (m1, m2, m3, m4, m5)) o
set_option maxRecDepth 20000 in
theorem t151_md_goesAlong {X : Nat × (Nat → Int32)} {ar fi : Nat → Nat → Int32} {m1 m2 m3 m4 m5 : Nat} {x y : Int32} {l3 : Int32} {l4 : Int32} {l5 : Int32} {b88 : Nat → Int32} {b89 : Nat → Int32} {b91 : Nat → Int32} : zseg X zFT zE0 zc_227 (fun p => Nat.beq p 52 || Nat.beq p 151 || Nat.beq p 7) 400 151 [.ref 64, .int x, .int y, .int l3, .int l4, .int l5] [] ((zua (zua (zua ar 88 b88) 89 b89) 91 b91), fi, (m1, m2, m3, m4, m5)) = (
  bif decide (l5 ≤ 0) then
   some (.inr (none, ((zua (zua (zua ar 88 b88) 89 b89) 91 b91), fi, (m1, m2, m3, m4, m5))))
  else
   zg (zin l5 192) (
   zg (zin (l5 - 1) 192) (
   bif decide ((b91 (l5.toNatClampNeg)) - (b91 (l5.toNatClampNeg)) / 2 * 2 = 0) then
    some (.inl (151, [.ref 64, .int x, .int y, .int l3, .int l4, .int (l5 + (-1))], [], ((zua (zua (zua ar 88 b88) 89 b89) 91 b91), fi, (m1, m2, m3, m4, m5))))
   else
    bif decide ((b91 ((l5 - 1).toNatClampNeg)) - (b91 ((l5 - 1).toNatClampNeg)) / 2 * 2 = 1) then
     some (.inl (151, [.ref 64, .int x, .int y, .int l3, .int l4, .int (l5 + (-1))], [], ((zua (zua (zua ar 88 b88) 89 b89) 91 b91), fi, (m1, m2, m3, m4, m5))))
    else
     bif !decide ((b91 (l5.toNatClampNeg)) / 2 = (b91 ((l5 - 1).toNatClampNeg)) / 2) then
      bif decide ((b91 (l5.toNatClampNeg)) / 2 = x) then
       bif decide ((b91 ((l5 - 1).toNatClampNeg)) / 2 = y) then
        some (.inl (151, [.ref 64, .int x, .int y, .int l3, .int l4, .int (l5 + (-1))], [], ((zua (zua (zua ar 88 b88) 89 b89) 91 b91), fi, (m1, m2, m3, m4, m5))))
       else
        zg (zin ((b91 ((l5 - 1).toNatClampNeg)) / 2) 96) (
        some (.inl (151, [.ref 64, .int x, .int y, .int l3, .int l4, .int (l5 + (-1))], [], ((zua (zua (zua (zua ar 88 b88) 89 b89) 91 b91) 89 (zup b89 (((b91 ((l5 - 1).toNatClampNeg)) / 2).toNatClampNeg) ((b91 (l5.toNatClampNeg)) / 2))), fi, (m1, m2, m3, m4, m5)))))
      else
       zg (zin ((b91 (l5.toNatClampNeg)) / 2) 96) (
       bif decide ((b91 ((l5 - 1).toNatClampNeg)) / 2 = y) then
        some (.inl (151, [.ref 64, .int x, .int y, .int l3, .int l4, .int (l5 + (-1))], [], ((zua (zua (zua (zua ar 88 b88) 89 b89) 91 b91) 88 (zup b88 (((b91 (l5.toNatClampNeg)) / 2).toNatClampNeg) ((b91 ((l5 - 1).toNatClampNeg)) / 2))), fi, (m1, m2, m3, m4, m5))))
       else
        zg (zin ((b91 ((l5 - 1).toNatClampNeg)) / 2) 96) (
        some (.inl (151, [.ref 64, .int x, .int y, .int l3, .int l4, .int (l5 + (-1))], [], ((zua (zua (zua (zua (zua ar 88 b88) 89 b89) 91 b91) 88 (zup b88 (((b91 (l5.toNatClampNeg)) / 2).toNatClampNeg) ((b91 ((l5 - 1).toNatClampNeg)) / 2))) 89 (zup b89 (((b91 ((l5 - 1).toNatClampNeg)) / 2).toNatClampNeg) ((b91 (l5.toNatClampNeg)) / 2))), fi, (m1, m2, m3, m4, m5))))))
     else
      some (.inl (151, [.ref 64, .int x, .int y, .int l3, .int l4, .int (l5 + (-1))], [], ((zua (zua (zua ar 88 b88) 89 b89) 91 b91), fi, (m1, m2, m3, m4, m5)))))) : Option ((Nat × List Value × List Value × zH2) ⊕ zO2)) := rfl
theorem k_md_goesAlong_151 {X : Nat × (Nat → Int32)} {ar fi : Nat → Nat → Int32} {m1 m2 m3 m4 m5 : Nat} {x y : Int32} {l3 : Int32} {l4 : Int32} {b91 : Nat → Int32} {o : zO2} : ∀ (s : U_md_goesAlong_151) (q : U_md_goesAlong_151 ⊕ T_md_goesAlong), f_md_goesAlong_151 x y b91 s = some q → zq (M_md_goesAlong_151 X zE0 ar fi m1 m2 m3 m4 m5 x y l3 l4 b91 o) (fun t => O_md_goesAlong ar fi m1 m2 m3 m4 m5 t = o) q → M_md_goesAlong_151 X zE0 ar fi m1 m2 m3 m4 m5 x y l3 l4 b91 o s := by
  intro s q h hq
  obtain ⟨l5, b88, b89⟩ := s
  have h : b_md_goesAlong_151 x y b91 l5 b88 b89 = some q := h
  unfold b_md_goesAlong_151 at h
  show zR2 X zFT zE0 zc_227 151 [.ref 64, .int x, .int y, .int l3, .int l4, .int l5] [] ((zua (zua (zua ar 88 b88) 89 b89) 91 b91), fi, (m1, m2, m3, m4, m5)) o
  refine zT_seg t151_md_goesAlong ?_
  refine zb_el h (fun hb h => zT_t hb ?_) (fun hb h => zT_f hb ?_)
  · have hz := zsi h hq
    refine (zO_mk ?_ ?_).trans hz
    · first | with_reducible rfl | (exact zuas_eq _ [(88, _), (89, _), (91, _)] [(88, _), (89, _), (91, _)] [88, 89, 91] rfl rfl ⟨rfl, rfl, rfl, trivial⟩)
    · first | with_reducible rfl | (rfl)
  · refine zg_el h (fun hg h => zT_g hg ?_)
    refine zg_el h (fun hg h => zT_g hg ?_)
    refine zb_el h (fun hb h => zT_t hb ?_) (fun hb h => zT_f hb ?_)
    · have hz := zsi h hq
      refine zR2_hp ?_ ?_ hz
      · first | with_reducible rfl | (exact zuas_eq _ [(88, _), (89, _), (91, _)] [(88, _), (89, _), (91, _)] [88, 89, 91] rfl rfl ⟨rfl, rfl, rfl, trivial⟩)
      · first | with_reducible rfl | (rfl)
    · refine zb_el h (fun hb h => zT_t hb ?_) (fun hb h => zT_f hb ?_)
      · have hz := zsi h hq
        refine zR2_hp ?_ ?_ hz
        · first | with_reducible rfl | (exact zuas_eq _ [(88, _), (89, _), (91, _)] [(88, _), (89, _), (91, _)] [88, 89, 91] rfl rfl ⟨rfl, rfl, rfl, trivial⟩)
        · first | with_reducible rfl | (rfl)
      · refine zb_el h (fun hb h => zT_t hb ?_) (fun hb h => zT_f hb ?_)
        · refine zb_el h (fun hb h => zT_t hb ?_) (fun hb h => zT_f hb ?_)
          · refine zb_el h (fun hb h => zT_t hb ?_) (fun hb h => zT_f hb ?_)
            · have hz := zsi h hq
              refine zR2_hp ?_ ?_ hz
              · first | with_reducible rfl | (exact zuas_eq _ [(88, _), (89, _), (91, _)] [(88, _), (89, _), (91, _)] [88, 89, 91] rfl rfl ⟨rfl, rfl, rfl, trivial⟩)
              · first | with_reducible rfl | (rfl)
            · refine zg_el h (fun hg h => zT_g hg ?_)
              have hz := zsi h hq
              refine zR2_hp ?_ ?_ hz
              · first | with_reducible rfl | (exact zuas_eq _ [(88, _), (89, _), (91, _), (89, _)] [(88, _), (89, _), (91, _)] [88, 89, 91] rfl rfl ⟨rfl, rfl, rfl, trivial⟩)
              · first | with_reducible rfl | (rfl)
          · refine zg_el h (fun hg h => zT_g hg ?_)
            refine zb_el h (fun hb h => zT_t hb ?_) (fun hb h => zT_f hb ?_)
            · have hz := zsi h hq
              refine zR2_hp ?_ ?_ hz
              · first | with_reducible rfl | (exact zuas_eq _ [(88, _), (89, _), (91, _), (88, _)] [(88, _), (89, _), (91, _)] [88, 89, 91] rfl rfl ⟨rfl, rfl, rfl, trivial⟩)
              · first | with_reducible rfl | (rfl)
            · refine zg_el h (fun hg h => zT_g hg ?_)
              have hz := zsi h hq
              refine zR2_hp ?_ ?_ hz
              · first | with_reducible rfl | (exact zuas_eq _ [(88, _), (89, _), (91, _), (88, _), (89, _)] [(88, _), (89, _), (91, _)] [88, 89, 91] rfl rfl ⟨rfl, rfl, rfl, trivial⟩)
              · first | with_reducible rfl | (rfl)
        · have hz := zsi h hq
          refine zR2_hp ?_ ?_ hz
          · first | with_reducible rfl | (exact zuas_eq _ [(88, _), (89, _), (91, _)] [(88, _), (89, _), (91, _)] [88, 89, 91] rfl rfl ⟨rfl, rfl, rfl, trivial⟩)
          · first | with_reducible rfl | (rfl)
set_option maxRecDepth 20000 in
theorem t52_md_goesAlong {X : Nat × (Nat → Int32)} {ar fi : Nat → Nat → Int32} {m1 m2 m3 m4 m5 : Nat} {x y : Int32} {l3 : Int32} {l4 : Int32} {l5 : Int32} {b88 : Nat → Int32} {b89 : Nat → Int32} {b91 : Nat → Int32} : zseg X zFT zE0 zc_227 (fun p => Nat.beq p 52 || Nat.beq p 151 || Nat.beq p 7) 400 52 [.ref 64, .int x, .int y, .int l3, .int l4, .int l5] [] ((zua (zua (zua ar 88 b88) 89 b89) 91 b91), fi, (m1, m2, m3, m4, m5)) = (
  bif decide (l5 ≤ 0) then
   some (.inl (151, [.ref 64, .int x, .int y, .int l3, .int l4, .int l3], [], ((zua (zua (zua ar 88 b88) 89 b89) 91 b91), fi, (m1, m2, m3, m4, m5))))
  else
   zg (zin l5 192) (
   zg (zin (l5 - 1) 192) (
   bif decide ((b91 (l5.toNatClampNeg)) - (b91 (l5.toNatClampNeg)) / 2 * 2 = 1) then
    some (.inl (52, [.ref 64, .int x, .int y, .int l3, .int l4, .int (l5 + (-1))], [], ((zua (zua (zua ar 88 b88) 89 b89) 91 b91), fi, (m1, m2, m3, m4, m5))))
   else
    bif decide ((b91 ((l5 - 1).toNatClampNeg)) - (b91 ((l5 - 1).toNatClampNeg)) / 2 * 2 = 0) then
     some (.inl (52, [.ref 64, .int x, .int y, .int l3, .int l4, .int (l5 + (-1))], [], ((zua (zua (zua ar 88 b88) 89 b89) 91 b91), fi, (m1, m2, m3, m4, m5))))
    else
     bif !decide ((b91 (l5.toNatClampNeg)) / 2 = (b91 ((l5 - 1).toNatClampNeg)) / 2) then
      zg (zin ((b91 ((l5 - 1).toNatClampNeg)) / 2) 96) (
      bif !decide (b88 (((b91 ((l5 - 1).toNatClampNeg)) / 2).toNatClampNeg) = (b91 (l5.toNatClampNeg)) / 2) then
       zg (zin ((b91 (l5.toNatClampNeg)) / 2) 96) (
       some (.inl (52, [.ref 64, .int x, .int y, .int l3, .int l4, .int (l5 + (-1))], [], ((zua (zua (zua (zua ar 88 b88) 89 b89) 91 b91) 89 (zup b89 (((b91 (l5.toNatClampNeg)) / 2).toNatClampNeg) (-1))), fi, (m1, m2, m3, m4, m5)))))
      else
       zg (zin ((b91 ((l5 - 1).toNatClampNeg)) / 2) 96) (
       zg (zin ((b91 (l5.toNatClampNeg)) / 2) 96) (
       some (.inl (52, [.ref 64, .int x, .int y, .int l3, .int l4, .int (l5 + (-1))], [], ((zua (zua (zua (zua (zua ar 88 b88) 89 b89) 91 b91) 88 (zup b88 (((b91 ((l5 - 1).toNatClampNeg)) / 2).toNatClampNeg) (-1))) 89 (zup b89 (((b91 (l5.toNatClampNeg)) / 2).toNatClampNeg) (-1))), fi, (m1, m2, m3, m4, m5)))))))
     else
      some (.inl (52, [.ref 64, .int x, .int y, .int l3, .int l4, .int (l5 + (-1))], [], ((zua (zua (zua ar 88 b88) 89 b89) 91 b91), fi, (m1, m2, m3, m4, m5)))))) : Option ((Nat × List Value × List Value × zH2) ⊕ zO2)) := rfl
theorem k_md_goesAlong_52 {X : Nat × (Nat → Int32)} {ar fi : Nat → Nat → Int32} {m1 m2 m3 m4 m5 : Nat} {x y : Int32} {l3 : Int32} {l4 : Int32} {b91 : Nat → Int32} {o : zO2} : ∀ (s : U_md_goesAlong_52) (q : U_md_goesAlong_52 ⊕ T_md_goesAlong), f_md_goesAlong_52 x y l3 b91 s = some q → zq (M_md_goesAlong_52 X zE0 ar fi m1 m2 m3 m4 m5 x y l3 l4 b91 o) (fun t => O_md_goesAlong ar fi m1 m2 m3 m4 m5 t = o) q → M_md_goesAlong_52 X zE0 ar fi m1 m2 m3 m4 m5 x y l3 l4 b91 o s := by
  intro s q h hq
  obtain ⟨l5, b88, b89⟩ := s
  have h : b_md_goesAlong_52 x y l3 b91 l5 b88 b89 = some q := h
  unfold b_md_goesAlong_52 at h
  show zR2 X zFT zE0 zc_227 52 [.ref 64, .int x, .int y, .int l3, .int l4, .int l5] [] ((zua (zua (zua ar 88 b88) 89 b89) 91 b91), fi, (m1, m2, m3, m4, m5)) o
  refine zT_seg t52_md_goesAlong ?_
  refine zb_el h (fun hb h => zT_t hb ?_) (fun hb h => zT_f hb ?_)
  · refine zbd_el h (fun r hr h => ?_)
    have hz := zsi h hq
    refine zR2_hp ?_ ?_ (zlp_K k_md_goesAlong_151 hr hz)
    · first | with_reducible rfl | (exact zuas_eq _ [(88, _), (89, _), (91, _)] [(88, _), (89, _), (91, _)] [88, 89, 91] rfl rfl ⟨rfl, rfl, rfl, trivial⟩)
    · first | with_reducible rfl | (rfl)
  · refine zg_el h (fun hg h => zT_g hg ?_)
    refine zg_el h (fun hg h => zT_g hg ?_)
    refine zb_el h (fun hb h => zT_t hb ?_) (fun hb h => zT_f hb ?_)
    · have hz := zsi h hq
      refine zR2_hp ?_ ?_ hz
      · first | with_reducible rfl | (exact zuas_eq _ [(88, _), (89, _), (91, _)] [(88, _), (89, _), (91, _)] [88, 89, 91] rfl rfl ⟨rfl, rfl, rfl, trivial⟩)
      · first | with_reducible rfl | (rfl)
    · refine zb_el h (fun hb h => zT_t hb ?_) (fun hb h => zT_f hb ?_)
      · have hz := zsi h hq
        refine zR2_hp ?_ ?_ hz
        · first | with_reducible rfl | (exact zuas_eq _ [(88, _), (89, _), (91, _)] [(88, _), (89, _), (91, _)] [88, 89, 91] rfl rfl ⟨rfl, rfl, rfl, trivial⟩)
        · first | with_reducible rfl | (rfl)
      · refine zb_el h (fun hb h => zT_t hb ?_) (fun hb h => zT_f hb ?_)
        · refine zg_el h (fun hg h => zT_g hg ?_)
          refine zb_el h (fun hb h => zT_t hb ?_) (fun hb h => zT_f hb ?_)
          · refine zg_el h (fun hg h => zT_g hg ?_)
            have hz := zsi h hq
            refine zR2_hp ?_ ?_ hz
            · first | with_reducible rfl | (exact zuas_eq _ [(88, _), (89, _), (91, _), (89, _)] [(88, _), (89, _), (91, _)] [88, 89, 91] rfl rfl ⟨rfl, rfl, rfl, trivial⟩)
            · first | with_reducible rfl | (rfl)
          · refine zg_el h (fun hg h => zT_g hg ?_)
            refine zg_el h (fun hg h => zT_g hg ?_)
            have hz := zsi h hq
            refine zR2_hp ?_ ?_ hz
            · first | with_reducible rfl | (exact zuas_eq _ [(88, _), (89, _), (91, _), (88, _), (89, _)] [(88, _), (89, _), (91, _)] [88, 89, 91] rfl rfl ⟨rfl, rfl, rfl, trivial⟩)
            · first | with_reducible rfl | (rfl)
        · have hz := zsi h hq
          refine zR2_hp ?_ ?_ hz
          · first | with_reducible rfl | (exact zuas_eq _ [(88, _), (89, _), (91, _)] [(88, _), (89, _), (91, _)] [88, 89, 91] rfl rfl ⟨rfl, rfl, rfl, trivial⟩)
          · first | with_reducible rfl | (rfl)
set_option maxRecDepth 20000 in
theorem t7_md_goesAlong {X : Nat × (Nat → Int32)} {ar fi : Nat → Nat → Int32} {m1 m2 m3 m4 m5 : Nat} {x y : Int32} {l3 : Int32} {l4 : Int32} {b88 : Nat → Int32} {b89 : Nat → Int32} {b91 : Nat → Int32} : zseg X zFT zE0 zc_227 (fun p => Nat.beq p 52 || Nat.beq p 151 || Nat.beq p 7) 400 7 [.ref 64, .int x, .int y, .int l3, .int l4] [] ((zua (zua (zua ar 88 b88) 89 b89) 91 b91), fi, (m1, m2, m3, m4, m5)) = (
  bif decide (l4 = (2 * x) + 1) then
   zg (zin l3 192) (
   some (.inl (52, [.ref 64, .int x, .int y, .int l3, .int l4, .int l3], [], ((zua (zua (zua (zua ar 88 b88) 89 b89) 91 b91) 91 (zup b91 (l3.toNatClampNeg) l4)), fi, (m1, m2, m3, m4, m5)))))
  else
   zg (zin l3 192) (
   zg (zin l4 192) (
   some (.inl (7, [.ref 64, .int x, .int y, .int (l3 + 1), .int ((ar 90) (l4.toNatClampNeg))], [], ((zua (zua (zua (zua ar 88 b88) 89 b89) 91 b91) 91 (zup b91 (l3.toNatClampNeg) l4)), fi, (m1, m2, m3, m4, m5)))))) : Option ((Nat × List Value × List Value × zH2) ⊕ zO2)) := rfl
theorem k_md_goesAlong_7 {X : Nat × (Nat → Int32)} {ar fi : Nat → Nat → Int32} {m1 m2 m3 m4 m5 : Nat} {x y : Int32} {b88 : Nat → Int32} {b89 : Nat → Int32} {o : zO2} : ∀ (s : U_md_goesAlong_7) (q : U_md_goesAlong_7 ⊕ T_md_goesAlong), f_md_goesAlong_7 x y (ar 90) b88 b89 s = some q → zq (M_md_goesAlong_7 X zE0 ar fi m1 m2 m3 m4 m5 x y b88 b89 o) (fun t => O_md_goesAlong ar fi m1 m2 m3 m4 m5 t = o) q → M_md_goesAlong_7 X zE0 ar fi m1 m2 m3 m4 m5 x y b88 b89 o s := by
  intro s q h hq
  obtain ⟨l3, l4, b91⟩ := s
  have h : b_md_goesAlong_7 x y (ar 90) b88 b89 l3 l4 b91 = some q := h
  unfold b_md_goesAlong_7 at h
  show zR2 X zFT zE0 zc_227 7 [.ref 64, .int x, .int y, .int l3, .int l4] [] ((zua (zua (zua ar 88 b88) 89 b89) 91 b91), fi, (m1, m2, m3, m4, m5)) o
  refine zT_seg t7_md_goesAlong ?_
  refine zb_el h (fun hb h => zT_t hb ?_) (fun hb h => zT_f hb ?_)
  · refine zg_el h (fun hg h => zT_g hg ?_)
    refine zbd_el h (fun r hr h => ?_)
    have hz := zsi h hq
    refine zR2_hp ?_ ?_ (zlp_K k_md_goesAlong_52 hr hz)
    · first | with_reducible rfl | (exact zuas_eq _ [(88, _), (89, _), (91, _), (91, _)] [(88, _), (89, _), (91, _)] [88, 89, 91] rfl rfl ⟨rfl, rfl, rfl, trivial⟩)
    · first | with_reducible rfl | (rfl)
  · refine zg_el h (fun hg h => zT_g hg ?_)
    refine zg_el h (fun hg h => zT_g hg ?_)
    have hz := zsi h hq
    refine zR2_hp ?_ ?_ hz
    · first | with_reducible rfl | (exact zuas_eq _ [(88, _), (89, _), (91, _), (91, _)] [(88, _), (89, _), (91, _)] [88, 89, 91] rfl rfl ⟨rfl, rfl, rfl, trivial⟩)
    · first | with_reducible rfl | (rfl)
set_option maxRecDepth 20000 in
theorem t_md_goesAlong {X : Nat × (Nat → Int32)} {ar fi : Nat → Nat → Int32} {m1 m2 m3 m4 m5 : Nat} {x y : Int32} : zseg X zFT zE0 zc_227 (fun p => Nat.beq p 52 || Nat.beq p 151 || Nat.beq p 7) 400 0 [.ref 64, .int x, .int y] [] (ar, fi, (m1, m2, m3, m4, m5)) = (
  some (.inl (7, [.ref 64, .int x, .int y, .int 0, .int (2 * y)], [], (ar, fi, (m1, m2, m3, m4, m5)))) : Option ((Nat × List Value × List Value × zH2) ⊕ zO2)) := rfl
theorem e_md_goesAlong {X : Nat × (Nat → Int32)} {ar fi : Nat → Nat → Int32} {m1 m2 m3 m4 m5 : Nat} {x y : Int32} {o : zO2} : ∀ (q : T_md_goesAlong), q_md_goesAlong x y (ar 88) (ar 89) (ar 90) (ar 91) = some q → (fun t => O_md_goesAlong ar fi m1 m2 m3 m4 m5 t = o) q → zR2 X zFT zE0 zc_227 0 [.ref 64, .int x, .int y] [] (ar, fi, (m1, m2, m3, m4, m5)) o := by
  intro q h hq
  unfold q_md_goesAlong at h
  refine zT_seg t_md_goesAlong ?_
  refine zR2_hp ?_ ?_ (zlp_K k_md_goesAlong_7 h hq)
  · first | with_reducible rfl | (exact zuas_eq _ [] [(88, _), (89, _), (91, _)] [88, 89, 91] rfl rfl ⟨rfl, rfl, rfl, trivial⟩)
  · first | with_reducible rfl | (rfl)
theorem ok_md_goesAlong (X : Nat × (Nat → Int32)) : zOkS X 227 S_md_goesAlong 1 := zOkS_new (zOkE_nil X 0) (by
  intro args g o h
  obtain ⟨ar, fi, m1, m2, m3, m4, m5⟩ := g
  unfold S_md_goesAlong P_md_goesAlong at h
  split at h
  · refine zb_el h (fun hI0 k0 => ?_) (fun _ h10 => ?_)
    · try simp only [Bool.and_eq_true] at hI0
      have j0 := hI0
      have e0 := Nat.eq_of_beq_eq_true j0
      subst e0
      exact zpe_el k0 (fun t ht ho => e_md_goesAlong t ht ho)
    · cases h10
  · cases h)
abbrev T_md_getsOut : Type := Int32 × (Nat → Int32) × (Nat → Int32) × (Nat → Int32) × (Nat → Int32)
abbrev U_md_getsOut_40 : Type := Int32 × (Nat → Int32)
abbrev U_md_getsOut_109 : Type := Int32 × Int32 × (Nat → Int32) × (Nat → Int32)
abbrev U_md_getsOut_77 : Type := Int32 × Int32 × (Nat → Int32) × (Nat → Int32)
def b_md_getsOut_109 (a68 : Nat → Int32) (l3 : Int32) (l4 : Int32) (b86 : Nat → Int32) (l2 : Int32) (l5 : Int32) (b92 : Nat → Int32) (b93 : Nat → Int32) : Option (U_md_getsOut_109 ⊕ (U_md_getsOut_77 ⊕ T_md_getsOut)) :=
  bif decide (4 ≤ l5) then
   some (.inr (.inl (l2, l3 + 1, b92, b93)))
  else
   zl (w_md_beside l4 l5) (fun v4 =>
   bif decide (v4 = (-1)) then
    some (.inl (l2, l5 + 1, b92, b93))
   else
    zg (zin v4 96) (
    bif decide (a68 (v4.toNatClampNeg) = 3) then
     some (.inl (l2, l5 + 1, b92, b93))
    else
     zg (zin v4 96) (
     bif decide (b92 (v4.toNatClampNeg) = (-1)) then
      zg (zin v4 96) (
      bif decide (b86 (v4.toNatClampNeg) = (-1)) then
       zg (zin l4 96) (
       zg (zin v4 96) (
       zg (zin l2 96) (
       some (.inl (l2 + 1, l5 + 1, (zup b92 (v4.toNatClampNeg) ((b92 (l4.toNatClampNeg)) + 1)), (zup b93 (l2.toNatClampNeg) v4))))))
      else
       zg (zin v4 96) (
       zg (zin l4 96) (
       bif decide ((b92 (l4.toNatClampNeg)) + 1 < b86 (v4.toNatClampNeg)) then
        zg (zin l4 96) (
        zg (zin v4 96) (
        zg (zin l2 96) (
        some (.inl (l2 + 1, l5 + 1, (zup b92 (v4.toNatClampNeg) ((b92 (l4.toNatClampNeg)) + 1)), (zup b93 (l2.toNatClampNeg) v4))))))
       else
        some (.inl (l2, l5 + 1, b92, b93)))))
     else
      some (.inl (l2, l5 + 1, b92, b93)))))
def f_md_getsOut_109 (a68 : Nat → Int32) (l3 : Int32) (l4 : Int32) (b86 : Nat → Int32) : U_md_getsOut_109 → Option (U_md_getsOut_109 ⊕ (U_md_getsOut_77 ⊕ T_md_getsOut)) := fun s => b_md_getsOut_109 a68 l3 l4 b86 s.1 s.2.1 s.2.2.1 s.2.2.2
noncomputable def l_md_getsOut_109 (a68 : Nat → Int32) (l3 : Int32) (l4 : Int32) (b86 : Nat → Int32) (l2 : Int32) (l5 : Int32) (b92 : Nat → Int32) (b93 : Nat → Int32) : Option (U_md_getsOut_77 ⊕ T_md_getsOut) := zlp (f_md_getsOut_109 a68 l3 l4 b86) (l2, l5, b92, b93)
noncomputable def b_md_getsOut_77 (a68 : Nat → Int32) (b86 : Nat → Int32) (b87 : Nat → Int32) (l2 : Int32) (l3 : Int32) (b92 : Nat → Int32) (b93 : Nat → Int32) : Option (U_md_getsOut_77 ⊕ T_md_getsOut) :=
  bif decide (l2 ≤ l3) then
   some (.inr ((-2), b86, b87, b92, b93))
  else
   zg (zin l3 96) (
   zl (w_md_isAtEdge (b93 (l3.toNatClampNeg))) (fun v3 =>
   bif decide (v3 = 0) then
    l_md_getsOut_109 a68 l3 (b93 (l3.toNatClampNeg)) b86 l2 0 b92 b93
   else
    zg (zin (b93 (l3.toNatClampNeg)) 96) (
    some (.inr (b92 ((b93 (l3.toNatClampNeg)).toNatClampNeg), b86, b87, b92, b93)))))
noncomputable def f_md_getsOut_77 (a68 : Nat → Int32) (b86 : Nat → Int32) (b87 : Nat → Int32) : U_md_getsOut_77 → Option (U_md_getsOut_77 ⊕ T_md_getsOut) := fun s => b_md_getsOut_77 a68 b86 b87 s.1 s.2.1 s.2.2.1 s.2.2.2
noncomputable def l_md_getsOut_77 (a68 : Nat → Int32) (b86 : Nat → Int32) (b87 : Nat → Int32) (l2 : Int32) (l3 : Int32) (b92 : Nat → Int32) (b93 : Nat → Int32) : Option T_md_getsOut := zlp (f_md_getsOut_77 a68 b86 b87) (l2, l3, b92, b93)
noncomputable def b_md_getsOut_40 (x : Int32) (a68 : Nat → Int32) (b86 : Nat → Int32) (b87 : Nat → Int32) (b93 : Nat → Int32) (l2 : Int32) (b92 : Nat → Int32) : Option (U_md_getsOut_40 ⊕ T_md_getsOut) :=
  bif decide (96 ≤ l2) then
   zg (zin x 96) (
   zg (zin 0 96) (
   zbd (l_md_getsOut_77 a68 b86 b87 1 0 (zup b92 (x.toNatClampNeg) 0) (zup b93 ((0 : Int32).toNatClampNeg) x)) (fun k => some (.inr k))))
  else
   zg (zin l2 96) (
   some (.inl (l2 + 1, (zup b92 (l2.toNatClampNeg) (-1)))))
noncomputable def f_md_getsOut_40 (x : Int32) (a68 : Nat → Int32) (b86 : Nat → Int32) (b87 : Nat → Int32) (b93 : Nat → Int32) : U_md_getsOut_40 → Option (U_md_getsOut_40 ⊕ T_md_getsOut) := fun s => b_md_getsOut_40 x a68 b86 b87 b93 s.1 s.2
noncomputable def l_md_getsOut_40 (x : Int32) (a68 : Nat → Int32) (b86 : Nat → Int32) (b87 : Nat → Int32) (b93 : Nat → Int32) (l2 : Int32) (b92 : Nat → Int32) : Option T_md_getsOut := zlp (f_md_getsOut_40 x a68 b86 b87 b93) (l2, b92)
noncomputable def q_md_getsOut (x : Int32) (a65 : Nat → Int32) (a68 : Nat → Int32) (a86 : Nat → Int32) (a87 : Nat → Int32) (a92 : Nat → Int32) (a93 : Nat → Int32) : Option T_md_getsOut :=
  zg (g_md_isPlace x) (
  zl (w_md_isPlace x) (fun v1 =>
  bif !decide (v1 = 0) then
   zg (zin x 96) (
   bif decide (a68 (x.toNatClampNeg) = 3) then
    some ((-3), a86, a87, a92, a93)
   else
    zg (zin (0 + x) 315) (
    bif !decide (a65 ((0 + x).toNatClampNeg) = 1) then
     zbd (q_md_laysFireNow a65 a68 a86 a87) (fun v2 =>
     l_md_getsOut_40 x a68 ((v2.1)) ((v2.2)) a93 0 a92)
    else
     some ((-3), a86, a87, a92, a93)))
  else
   some ((-1), a86, a87, a92, a93)))
def P_md_getsOut (Q : Int32 → (Nat → Int32) → (Nat → Int32) → (Nat → Int32) → (Nat → Int32) → (Nat → Int32) → (Nat → Int32) → Option (Int32 × (Nat → Int32) × (Nat → Int32) × (Nat → Int32) × (Nat → Int32))) : zSp := fun as g => match as with
  | [.ref a, .int x] => bif Nat.beq a 64 then zpe (Q x (g.1 65) (g.1 68) (g.1 86) (g.1 87) (g.1 92) (g.1 93)) (fun t => (some (.int (t.1)), ((zua (zua (zua (zua g.1 86 t.2.1) 87 t.2.2.1) 92 t.2.2.2.1) 93 t.2.2.2.2), g.2.1, g.2.2))) else none
  | _ => none
noncomputable abbrev S_md_getsOut : zSp := P_md_getsOut q_md_getsOut
def O_md_getsOut (ar fi : Nat → Nat → Int32) (m1 : Nat) (m2 : Nat) (m3 : Nat) (m4 : Nat) (m5 : Nat) (t : T_md_getsOut) : zO2 := (some (.int (t.1)), ((zua (zua (zua (zua ar 86 t.2.1) 87 t.2.2.1) 92 t.2.2.2.1) 93 t.2.2.2.2), fi, (m1, m2, m3, m4, m5)))
def M_md_getsOut_109 (X : Nat × (Nat → Int32)) (E : zTE) (ar fi : Nat → Nat → Int32) (m1 : Nat) (m2 : Nat) (m3 : Nat) (m4 : Nat) (m5 : Nat) (x : Int32) (l3 : Int32) (l4 : Int32) (b86 : Nat → Int32) (b87 : Nat → Int32) (o : zO2) (s : U_md_getsOut_109) : Prop := zR2 X zFT E zc_230 109 [.ref 64, .int x, .int s.1, .int l3, .int l4, .int s.2.1] [] ((zua (zua (zua (zua ar 86 b86) 87 b87) 92 s.2.2.1) 93 s.2.2.2), fi, (m1, m2, m3, m4, m5)) o
def M_md_getsOut_77 (X : Nat × (Nat → Int32)) (E : zTE) (ar fi : Nat → Nat → Int32) (m1 : Nat) (m2 : Nat) (m3 : Nat) (m4 : Nat) (m5 : Nat) (x : Int32) (b86 : Nat → Int32) (b87 : Nat → Int32) (o : zO2) (s : U_md_getsOut_77) : Prop := zR2 X zFT E zc_230 77 [.ref 64, .int x, .int s.1, .int s.2.1] [] ((zua (zua (zua (zua ar 86 b86) 87 b87) 92 s.2.2.1) 93 s.2.2.2), fi, (m1, m2, m3, m4, m5)) o
def M_md_getsOut_40 (X : Nat × (Nat → Int32)) (E : zTE) (ar fi : Nat → Nat → Int32) (m1 : Nat) (m2 : Nat) (m3 : Nat) (m4 : Nat) (m5 : Nat) (x : Int32) (b86 : Nat → Int32) (b87 : Nat → Int32) (b93 : Nat → Int32) (o : zO2) (s : U_md_getsOut_40) : Prop := zR2 X zFT E zc_230 40 [.ref 64, .int x, .int s.1] [] ((zua (zua (zua (zua ar 86 b86) 87 b87) 92 s.2) 93 b93), fi, (m1, m2, m3, m4, m5)) o
set_option maxRecDepth 20000 in
theorem t109_md_getsOut {X : Nat × (Nat → Int32)} {ar fi : Nat → Nat → Int32} {m1 m2 m3 m4 m5 : Nat} {x : Int32} {l2 : Int32} {l3 : Int32} {l4 : Int32} {l5 : Int32} {b86 : Nat → Int32} {b87 : Nat → Int32} {b92 : Nat → Int32} {b93 : Nat → Int32} {G_md_isPlace : Int32 → Bool} {W_md_isPlace : Int32 → Int32} {Q_md_laysFireNow : (Nat → Int32) → (Nat → Int32) → (Nat → Int32) → (Nat → Int32) → Option ((Nat → Int32) × (Nat → Int32))} {W_md_isAtEdge : Int32 → Int32} {W_md_beside : Int32 → Int32 → Int32} : zseg X zFT (zEx 149 (P_md_isPlace G_md_isPlace W_md_isPlace) (zEx 220 (P_md_laysFireNow Q_md_laysFireNow) (zEx 229 (P_md_isAtEdge W_md_isAtEdge) (zEx 151 (P_md_beside W_md_beside) zE0)))) zc_230 (fun p => Nat.beq p 40 || Nat.beq p 109 || Nat.beq p 77) 400 109 [.ref 64, .int x, .int l2, .int l3, .int l4, .int l5] [] ((zua (zua (zua (zua ar 86 b86) 87 b87) 92 b92) 93 b93), fi, (m1, m2, m3, m4, m5)) = (
  bif decide (4 ≤ l5) then
   some (.inl (77, [.ref 64, .int x, .int l2, .int (l3 + 1)], [], ((zua (zua (zua (zua ar 86 b86) 87 b87) 92 b92) 93 b93), fi, (m1, m2, m3, m4, m5))))
  else
   zl (W_md_beside l4 l5) (fun v4 =>
   bif decide (v4 = (-1)) then
    some (.inl (109, [.ref 64, .int x, .int l2, .int l3, .int l4, .int (l5 + 1)], [], ((zua (zua (zua (zua ar 86 b86) 87 b87) 92 b92) 93 b93), fi, (m1, m2, m3, m4, m5))))
   else
    zg (zin v4 96) (
    bif decide ((ar 68) (v4.toNatClampNeg) = 3) then
     some (.inl (109, [.ref 64, .int x, .int l2, .int l3, .int l4, .int (l5 + 1)], [], ((zua (zua (zua (zua ar 86 b86) 87 b87) 92 b92) 93 b93), fi, (m1, m2, m3, m4, m5))))
    else
     zg (zin v4 96) (
     bif decide (b92 (v4.toNatClampNeg) = (-1)) then
      zg (zin v4 96) (
      bif decide (b86 (v4.toNatClampNeg) = (-1)) then
       zg (zin l4 96) (
       zg (zin v4 96) (
       zg (zin l2 96) (
       some (.inl (109, [.ref 64, .int x, .int (l2 + 1), .int l3, .int l4, .int (l5 + 1)], [], ((zua (zua (zua (zua (zua (zua ar 86 b86) 87 b87) 92 b92) 93 b93) 92 (zup b92 (v4.toNatClampNeg) ((b92 (l4.toNatClampNeg)) + 1))) 93 (zup b93 (l2.toNatClampNeg) v4)), fi, (m1, m2, m3, m4, m5)))))))
      else
       zg (zin v4 96) (
       zg (zin l4 96) (
       bif decide ((b92 (l4.toNatClampNeg)) + 1 < b86 (v4.toNatClampNeg)) then
        zg (zin l4 96) (
        zg (zin v4 96) (
        zg (zin l2 96) (
        some (.inl (109, [.ref 64, .int x, .int (l2 + 1), .int l3, .int l4, .int (l5 + 1)], [], ((zua (zua (zua (zua (zua (zua ar 86 b86) 87 b87) 92 b92) 93 b93) 92 (zup b92 (v4.toNatClampNeg) ((b92 (l4.toNatClampNeg)) + 1))) 93 (zup b93 (l2.toNatClampNeg) v4)), fi, (m1, m2, m3, m4, m5)))))))
       else
        some (.inl (109, [.ref 64, .int x, .int l2, .int l3, .int l4, .int (l5 + 1)], [], ((zua (zua (zua (zua ar 86 b86) 87 b87) 92 b92) 93 b93), fi, (m1, m2, m3, m4, m5)))))))
     else
      some (.inl (109, [.ref 64, .int x, .int l2, .int l3, .int l4, .int (l5 + 1)], [], ((zua (zua (zua (zua ar 86 b86) 87 b87) 92 b92) 93 b93), fi, (m1, m2, m3, m4, m5))))))) : Option ((Nat × List Value × List Value × zH2) ⊕ zO2)) := rfl
theorem k_md_getsOut_109 {X : Nat × (Nat → Int32)} {ar fi : Nat → Nat → Int32} {m1 m2 m3 m4 m5 : Nat} {x : Int32} {l3 : Int32} {l4 : Int32} {b86 : Nat → Int32} {b87 : Nat → Int32} {o : zO2} : ∀ (s : U_md_getsOut_109) (q : U_md_getsOut_109 ⊕ (U_md_getsOut_77 ⊕ T_md_getsOut)), f_md_getsOut_109 (ar 68) l3 l4 b86 s = some q → zq (M_md_getsOut_109 X (zEx 149 S_md_isPlace (zEx 220 S_md_laysFireNow (zEx 229 S_md_isAtEdge (zEx 151 S_md_beside zE0)))) ar fi m1 m2 m3 m4 m5 x l3 l4 b86 b87 o) (zq (M_md_getsOut_77 X (zEx 149 S_md_isPlace (zEx 220 S_md_laysFireNow (zEx 229 S_md_isAtEdge (zEx 151 S_md_beside zE0)))) ar fi m1 m2 m3 m4 m5 x b86 b87 o) (fun t => O_md_getsOut ar fi m1 m2 m3 m4 m5 t = o)) q → M_md_getsOut_109 X (zEx 149 S_md_isPlace (zEx 220 S_md_laysFireNow (zEx 229 S_md_isAtEdge (zEx 151 S_md_beside zE0)))) ar fi m1 m2 m3 m4 m5 x l3 l4 b86 b87 o s := by
  intro s q h hq
  obtain ⟨l2, l5, b92, b93⟩ := s
  have h : b_md_getsOut_109 (ar 68) l3 l4 b86 l2 l5 b92 b93 = some q := h
  unfold b_md_getsOut_109 at h
  show zR2 X zFT (zEx 149 S_md_isPlace (zEx 220 S_md_laysFireNow (zEx 229 S_md_isAtEdge (zEx 151 S_md_beside zE0)))) zc_230 109 [.ref 64, .int x, .int l2, .int l3, .int l4, .int l5] [] ((zua (zua (zua (zua ar 86 b86) 87 b87) 92 b92) 93 b93), fi, (m1, m2, m3, m4, m5)) o
  refine zT_seg t109_md_getsOut ?_
  refine zb_el h (fun hb h => zT_t hb ?_) (fun hb h => zT_f hb ?_)
  · have hz := zsi h hq
    refine zR2_hp ?_ ?_ hz
    · first | with_reducible rfl | (exact zuas_eq _ [(86, _), (87, _), (92, _), (93, _)] [(86, _), (87, _), (92, _), (93, _)] [86, 87, 92, 93] rfl rfl ⟨rfl, rfl, rfl, rfl, trivial⟩)
    · first | with_reducible rfl | (rfl)
  · refine zl_el h (fun h => zT_l ?_)
    refine zb_el h (fun hb h => zT_t hb ?_) (fun hb h => zT_f hb ?_)
    · have hz := zsi h hq
      refine zR2_hp ?_ ?_ hz
      · first | with_reducible rfl | (exact zuas_eq _ [(86, _), (87, _), (92, _), (93, _)] [(86, _), (87, _), (92, _), (93, _)] [86, 87, 92, 93] rfl rfl ⟨rfl, rfl, rfl, rfl, trivial⟩)
      · first | with_reducible rfl | (rfl)
    · refine zg_el h (fun hg h => zT_g hg ?_)
      refine zb_el h (fun hb h => zT_t hb ?_) (fun hb h => zT_f hb ?_)
      · have hz := zsi h hq
        refine zR2_hp ?_ ?_ hz
        · first | with_reducible rfl | (exact zuas_eq _ [(86, _), (87, _), (92, _), (93, _)] [(86, _), (87, _), (92, _), (93, _)] [86, 87, 92, 93] rfl rfl ⟨rfl, rfl, rfl, rfl, trivial⟩)
        · first | with_reducible rfl | (rfl)
      · refine zg_el h (fun hg h => zT_g hg ?_)
        refine zb_el h (fun hb h => zT_t hb ?_) (fun hb h => zT_f hb ?_)
        · refine zg_el h (fun hg h => zT_g hg ?_)
          refine zb_el h (fun hb h => zT_t hb ?_) (fun hb h => zT_f hb ?_)
          · refine zg_el h (fun hg h => zT_g hg ?_)
            refine zg_el h (fun hg h => zT_g hg ?_)
            refine zg_el h (fun hg h => zT_g hg ?_)
            have hz := zsi h hq
            refine zR2_hp ?_ ?_ hz
            · first | with_reducible rfl | (exact zuas_eq _ [(86, _), (87, _), (92, _), (93, _), (92, _), (93, _)] [(86, _), (87, _), (92, _), (93, _)] [86, 87, 92, 93] rfl rfl ⟨rfl, rfl, rfl, rfl, trivial⟩)
            · first | with_reducible rfl | (rfl)
          · refine zg_el h (fun hg h => zT_g hg ?_)
            refine zg_el h (fun hg h => zT_g hg ?_)
            refine zb_el h (fun hb h => zT_t hb ?_) (fun hb h => zT_f hb ?_)
            · refine zg_el h (fun hg h => zT_g hg ?_)
              refine zg_el h (fun hg h => zT_g hg ?_)
              refine zg_el h (fun hg h => zT_g hg ?_)
              have hz := zsi h hq
              refine zR2_hp ?_ ?_ hz
              · first | with_reducible rfl | (exact zuas_eq _ [(86, _), (87, _), (92, _), (93, _), (92, _), (93, _)] [(86, _), (87, _), (92, _), (93, _)] [86, 87, 92, 93] rfl rfl ⟨rfl, rfl, rfl, rfl, trivial⟩)
              · first | with_reducible rfl | (rfl)
            · have hz := zsi h hq
              refine zR2_hp ?_ ?_ hz
              · first | with_reducible rfl | (exact zuas_eq _ [(86, _), (87, _), (92, _), (93, _)] [(86, _), (87, _), (92, _), (93, _)] [86, 87, 92, 93] rfl rfl ⟨rfl, rfl, rfl, rfl, trivial⟩)
              · first | with_reducible rfl | (rfl)
        · have hz := zsi h hq
          refine zR2_hp ?_ ?_ hz
          · first | with_reducible rfl | (exact zuas_eq _ [(86, _), (87, _), (92, _), (93, _)] [(86, _), (87, _), (92, _), (93, _)] [86, 87, 92, 93] rfl rfl ⟨rfl, rfl, rfl, rfl, trivial⟩)
          · first | with_reducible rfl | (rfl)
set_option maxRecDepth 20000 in
theorem t77_md_getsOut {X : Nat × (Nat → Int32)} {ar fi : Nat → Nat → Int32} {m1 m2 m3 m4 m5 : Nat} {x : Int32} {l2 : Int32} {l3 : Int32} {b86 : Nat → Int32} {b87 : Nat → Int32} {b92 : Nat → Int32} {b93 : Nat → Int32} {G_md_isPlace : Int32 → Bool} {W_md_isPlace : Int32 → Int32} {Q_md_laysFireNow : (Nat → Int32) → (Nat → Int32) → (Nat → Int32) → (Nat → Int32) → Option ((Nat → Int32) × (Nat → Int32))} {W_md_isAtEdge : Int32 → Int32} {W_md_beside : Int32 → Int32 → Int32} : zseg X zFT (zEx 149 (P_md_isPlace G_md_isPlace W_md_isPlace) (zEx 220 (P_md_laysFireNow Q_md_laysFireNow) (zEx 229 (P_md_isAtEdge W_md_isAtEdge) (zEx 151 (P_md_beside W_md_beside) zE0)))) zc_230 (fun p => Nat.beq p 40 || Nat.beq p 109 || Nat.beq p 77) 400 77 [.ref 64, .int x, .int l2, .int l3] [] ((zua (zua (zua (zua ar 86 b86) 87 b87) 92 b92) 93 b93), fi, (m1, m2, m3, m4, m5)) = (
  bif decide (l2 ≤ l3) then
   some (.inr (some (.int (-2)), ((zua (zua (zua (zua ar 86 b86) 87 b87) 92 b92) 93 b93), fi, (m1, m2, m3, m4, m5))))
  else
   zg (zin l3 96) (
   zl (W_md_isAtEdge (b93 (l3.toNatClampNeg))) (fun v3 =>
   bif decide (v3 = 0) then
    some (.inl (109, [.ref 64, .int x, .int l2, .int l3, .int (b93 (l3.toNatClampNeg)), .int 0], [], ((zua (zua (zua (zua ar 86 b86) 87 b87) 92 b92) 93 b93), fi, (m1, m2, m3, m4, m5))))
   else
    zg (zin (b93 (l3.toNatClampNeg)) 96) (
    some (.inr (some (.int (b92 ((b93 (l3.toNatClampNeg)).toNatClampNeg))), ((zua (zua (zua (zua ar 86 b86) 87 b87) 92 b92) 93 b93), fi, (m1, m2, m3, m4, m5))))))) : Option ((Nat × List Value × List Value × zH2) ⊕ zO2)) := rfl
theorem k_md_getsOut_77 {X : Nat × (Nat → Int32)} {ar fi : Nat → Nat → Int32} {m1 m2 m3 m4 m5 : Nat} {x : Int32} {b86 : Nat → Int32} {b87 : Nat → Int32} {o : zO2} : ∀ (s : U_md_getsOut_77) (q : U_md_getsOut_77 ⊕ T_md_getsOut), f_md_getsOut_77 (ar 68) b86 b87 s = some q → zq (M_md_getsOut_77 X (zEx 149 S_md_isPlace (zEx 220 S_md_laysFireNow (zEx 229 S_md_isAtEdge (zEx 151 S_md_beside zE0)))) ar fi m1 m2 m3 m4 m5 x b86 b87 o) (fun t => O_md_getsOut ar fi m1 m2 m3 m4 m5 t = o) q → M_md_getsOut_77 X (zEx 149 S_md_isPlace (zEx 220 S_md_laysFireNow (zEx 229 S_md_isAtEdge (zEx 151 S_md_beside zE0)))) ar fi m1 m2 m3 m4 m5 x b86 b87 o s := by
  intro s q h hq
  obtain ⟨l2, l3, b92, b93⟩ := s
  have h : b_md_getsOut_77 (ar 68) b86 b87 l2 l3 b92 b93 = some q := h
  unfold b_md_getsOut_77 at h
  show zR2 X zFT (zEx 149 S_md_isPlace (zEx 220 S_md_laysFireNow (zEx 229 S_md_isAtEdge (zEx 151 S_md_beside zE0)))) zc_230 77 [.ref 64, .int x, .int l2, .int l3] [] ((zua (zua (zua (zua ar 86 b86) 87 b87) 92 b92) 93 b93), fi, (m1, m2, m3, m4, m5)) o
  refine zT_seg t77_md_getsOut ?_
  refine zb_el h (fun hb h => zT_t hb ?_) (fun hb h => zT_f hb ?_)
  · have hz := zsi h hq
    refine (zO_mk ?_ ?_).trans hz
    · first | with_reducible rfl | (exact zuas_eq _ [(86, _), (87, _), (92, _), (93, _)] [(86, _), (87, _), (92, _), (93, _)] [86, 87, 92, 93] rfl rfl ⟨rfl, rfl, rfl, rfl, trivial⟩)
    · first | with_reducible rfl | (rfl)
  · refine zg_el h (fun hg h => zT_g hg ?_)
    refine zl_el h (fun h => zT_l ?_)
    refine zb_el h (fun hb h => zT_t hb ?_) (fun hb h => zT_f hb ?_)
    · refine zR2_hp ?_ ?_ (zlp_K k_md_getsOut_109 h hq)
      · first | with_reducible rfl | (exact zuas_eq _ [(86, _), (87, _), (92, _), (93, _)] [(86, _), (87, _), (92, _), (93, _)] [86, 87, 92, 93] rfl rfl ⟨rfl, rfl, rfl, rfl, trivial⟩)
      · first | with_reducible rfl | (rfl)
    · refine zg_el h (fun hg h => zT_g hg ?_)
      have hz := zsi h hq
      refine (zO_mk ?_ ?_).trans hz
      · first | with_reducible rfl | (exact zuas_eq _ [(86, _), (87, _), (92, _), (93, _)] [(86, _), (87, _), (92, _), (93, _)] [86, 87, 92, 93] rfl rfl ⟨rfl, rfl, rfl, rfl, trivial⟩)
      · first | with_reducible rfl | (rfl)
set_option maxRecDepth 20000 in
theorem t40_md_getsOut {X : Nat × (Nat → Int32)} {ar fi : Nat → Nat → Int32} {m1 m2 m3 m4 m5 : Nat} {x : Int32} {l2 : Int32} {b86 : Nat → Int32} {b87 : Nat → Int32} {b92 : Nat → Int32} {b93 : Nat → Int32} {G_md_isPlace : Int32 → Bool} {W_md_isPlace : Int32 → Int32} {Q_md_laysFireNow : (Nat → Int32) → (Nat → Int32) → (Nat → Int32) → (Nat → Int32) → Option ((Nat → Int32) × (Nat → Int32))} {W_md_isAtEdge : Int32 → Int32} {W_md_beside : Int32 → Int32 → Int32} : zseg X zFT (zEx 149 (P_md_isPlace G_md_isPlace W_md_isPlace) (zEx 220 (P_md_laysFireNow Q_md_laysFireNow) (zEx 229 (P_md_isAtEdge W_md_isAtEdge) (zEx 151 (P_md_beside W_md_beside) zE0)))) zc_230 (fun p => Nat.beq p 40 || Nat.beq p 109 || Nat.beq p 77) 400 40 [.ref 64, .int x, .int l2] [] ((zua (zua (zua (zua ar 86 b86) 87 b87) 92 b92) 93 b93), fi, (m1, m2, m3, m4, m5)) = (
  bif decide (96 ≤ l2) then
   zg (zin x 96) (
   zg (zin 0 96) (
   some (.inl (77, [.ref 64, .int x, .int 1, .int 0], [], ((zua (zua (zua (zua (zua (zua ar 86 b86) 87 b87) 92 b92) 93 b93) 92 (zup b92 (x.toNatClampNeg) 0)) 93 (zup b93 ((0 : Int32).toNatClampNeg) x)), fi, (m1, m2, m3, m4, m5))))))
  else
   zg (zin l2 96) (
   some (.inl (40, [.ref 64, .int x, .int (l2 + 1)], [], ((zua (zua (zua (zua (zua ar 86 b86) 87 b87) 92 b92) 93 b93) 92 (zup b92 (l2.toNatClampNeg) (-1))), fi, (m1, m2, m3, m4, m5))))) : Option ((Nat × List Value × List Value × zH2) ⊕ zO2)) := rfl
theorem k_md_getsOut_40 {X : Nat × (Nat → Int32)} {ar fi : Nat → Nat → Int32} {m1 m2 m3 m4 m5 : Nat} {x : Int32} {b86 : Nat → Int32} {b87 : Nat → Int32} {b93 : Nat → Int32} {o : zO2} : ∀ (s : U_md_getsOut_40) (q : U_md_getsOut_40 ⊕ T_md_getsOut), f_md_getsOut_40 x (ar 68) b86 b87 b93 s = some q → zq (M_md_getsOut_40 X (zEx 149 S_md_isPlace (zEx 220 S_md_laysFireNow (zEx 229 S_md_isAtEdge (zEx 151 S_md_beside zE0)))) ar fi m1 m2 m3 m4 m5 x b86 b87 b93 o) (fun t => O_md_getsOut ar fi m1 m2 m3 m4 m5 t = o) q → M_md_getsOut_40 X (zEx 149 S_md_isPlace (zEx 220 S_md_laysFireNow (zEx 229 S_md_isAtEdge (zEx 151 S_md_beside zE0)))) ar fi m1 m2 m3 m4 m5 x b86 b87 b93 o s := by
  intro s q h hq
  obtain ⟨l2, b92⟩ := s
  have h : b_md_getsOut_40 x (ar 68) b86 b87 b93 l2 b92 = some q := h
  unfold b_md_getsOut_40 at h
  show zR2 X zFT (zEx 149 S_md_isPlace (zEx 220 S_md_laysFireNow (zEx 229 S_md_isAtEdge (zEx 151 S_md_beside zE0)))) zc_230 40 [.ref 64, .int x, .int l2] [] ((zua (zua (zua (zua ar 86 b86) 87 b87) 92 b92) 93 b93), fi, (m1, m2, m3, m4, m5)) o
  refine zT_seg t40_md_getsOut ?_
  refine zb_el h (fun hb h => zT_t hb ?_) (fun hb h => zT_f hb ?_)
  · refine zg_el h (fun hg h => zT_g hg ?_)
    refine zg_el h (fun hg h => zT_g hg ?_)
    refine zbd_el h (fun r hr h => ?_)
    have hz := zsi h hq
    refine zR2_hp ?_ ?_ (zlp_K k_md_getsOut_77 hr hz)
    · first | with_reducible rfl | (exact zuas_eq _ [(86, _), (87, _), (92, _), (93, _), (92, _), (93, _)] [(86, _), (87, _), (92, _), (93, _)] [86, 87, 92, 93] rfl rfl ⟨rfl, rfl, rfl, rfl, trivial⟩)
    · first | with_reducible rfl | (rfl)
  · refine zg_el h (fun hg h => zT_g hg ?_)
    have hz := zsi h hq
    refine zR2_hp ?_ ?_ hz
    · first | with_reducible rfl | (exact zuas_eq _ [(86, _), (87, _), (92, _), (93, _), (92, _)] [(86, _), (87, _), (92, _), (93, _)] [86, 87, 92, 93] rfl rfl ⟨rfl, rfl, rfl, rfl, trivial⟩)
    · first | with_reducible rfl | (rfl)
set_option maxRecDepth 20000 in
theorem t_md_getsOut {X : Nat × (Nat → Int32)} {ar fi : Nat → Nat → Int32} {m1 m2 m3 m4 m5 : Nat} {x : Int32} {G_md_isPlace : Int32 → Bool} {W_md_isPlace : Int32 → Int32} {Q_md_laysFireNow : (Nat → Int32) → (Nat → Int32) → (Nat → Int32) → (Nat → Int32) → Option ((Nat → Int32) × (Nat → Int32))} {W_md_isAtEdge : Int32 → Int32} {W_md_beside : Int32 → Int32 → Int32} : zseg X zFT (zEx 149 (P_md_isPlace G_md_isPlace W_md_isPlace) (zEx 220 (P_md_laysFireNow Q_md_laysFireNow) (zEx 229 (P_md_isAtEdge W_md_isAtEdge) (zEx 151 (P_md_beside W_md_beside) zE0)))) zc_230 (fun p => Nat.beq p 40 || Nat.beq p 109 || Nat.beq p 77) 400 0 [.ref 64, .int x] [] (ar, fi, (m1, m2, m3, m4, m5)) = (
  zg (G_md_isPlace x) (
  zl (W_md_isPlace x) (fun v1 =>
  bif !decide (v1 = 0) then
   zg (zin x 96) (
   bif decide ((ar 68) (x.toNatClampNeg) = 3) then
    some (.inr (some (.int (-3)), (ar, fi, (m1, m2, m3, m4, m5))))
   else
    zg (zin (0 + x) 315) (
    bif !decide ((ar 65) ((0 + x).toNatClampNeg) = 1) then
     zl (Q_md_laysFireNow (ar 65) (ar 68) (ar 86) (ar 87)) (fun v2 => zg v2.isSome (
     some (.inl (40, [.ref 64, .int x, .int 0], [], ((zua (zua ar 86 (((zgt v2).1))) 87 (((zgt v2).2))), fi, (m1, m2, m3, m4, m5))))))
    else
     some (.inr (some (.int (-3)), (ar, fi, (m1, m2, m3, m4, m5))))))
  else
   some (.inr (some (.int (-1)), (ar, fi, (m1, m2, m3, m4, m5)))))) : Option ((Nat × List Value × List Value × zH2) ⊕ zO2)) := rfl
theorem e_md_getsOut {X : Nat × (Nat → Int32)} {ar fi : Nat → Nat → Int32} {m1 m2 m3 m4 m5 : Nat} {x : Int32} {o : zO2} : ∀ (q : T_md_getsOut), q_md_getsOut x (ar 65) (ar 68) (ar 86) (ar 87) (ar 92) (ar 93) = some q → (fun t => O_md_getsOut ar fi m1 m2 m3 m4 m5 t = o) q → zR2 X zFT (zEx 149 S_md_isPlace (zEx 220 S_md_laysFireNow (zEx 229 S_md_isAtEdge (zEx 151 S_md_beside zE0)))) zc_230 0 [.ref 64, .int x] [] (ar, fi, (m1, m2, m3, m4, m5)) o := by
  intro q h hq
  unfold q_md_getsOut at h
  refine zT_seg t_md_getsOut ?_
  refine zg_el h (fun hg h => zT_g hg ?_)
  refine zl_el h (fun h => zT_l ?_)
  refine zb_el h (fun hb h => zT_t hb ?_) (fun hb h => zT_f hb ?_)
  · refine zg_el h (fun hg h => zT_g hg ?_)
    refine zb_el h (fun hb h => zT_t hb ?_) (fun hb h => zT_f hb ?_)
    · have hz := zsi h hq
      refine (zO_mk ?_ ?_).trans hz
      · first | with_reducible rfl | (exact zuas_eq _ [] [(86, _), (87, _), (92, _), (93, _)] [86, 87, 92, 93] rfl rfl ⟨rfl, rfl, rfl, rfl, trivial⟩)
      · first | with_reducible rfl | (rfl)
    · refine zg_el h (fun hg h => zT_g hg ?_)
      refine zb_el h (fun hb h => zT_t hb ?_) (fun hb h => zT_f hb ?_)
      · refine zbd_el h (fun v2 hv h => zT_c hv ?_)
        refine zR2_hp ?_ ?_ (zlp_K k_md_getsOut_40 h hq)
        · first | with_reducible rfl | (exact zuas_eq _ [(86, _), (87, _)] [(86, _), (87, _), (92, _), (93, _)] [86, 87, 92, 93] rfl rfl ⟨rfl, rfl, rfl, rfl, trivial⟩)
        · first | with_reducible rfl | (rfl)
      · have hz := zsi h hq
        refine (zO_mk ?_ ?_).trans hz
        · first | with_reducible rfl | (exact zuas_eq _ [] [(86, _), (87, _), (92, _), (93, _)] [86, 87, 92, 93] rfl rfl ⟨rfl, rfl, rfl, rfl, trivial⟩)
        · first | with_reducible rfl | (rfl)
  · have hz := zsi h hq
    refine (zO_mk ?_ ?_).trans hz
    · first | with_reducible rfl | (exact zuas_eq _ [] [(86, _), (87, _), (92, _), (93, _)] [86, 87, 92, 93] rfl rfl ⟨rfl, rfl, rfl, rfl, trivial⟩)
    · first | with_reducible rfl | (rfl)
theorem ok_md_getsOut (X : Nat × (Nat → Int32)) : zOkS X 230 S_md_getsOut 6 := zOkS_new (zOkE_cons (ok_md_isPlace X) (by decide) (zOkE_cons (ok_md_laysFireNow X) (by decide) (zOkE_cons (ok_md_isAtEdge X) (by decide) (zOkE_cons (ok_md_beside X) (by decide) (zOkE_nil X 5))))) (by
  intro args g o h
  obtain ⟨ar, fi, m1, m2, m3, m4, m5⟩ := g
  unfold S_md_getsOut P_md_getsOut at h
  split at h
  · refine zb_el h (fun hI0 k0 => ?_) (fun _ h10 => ?_)
    · try simp only [Bool.and_eq_true] at hI0
      have j0 := hI0
      have e0 := Nat.eq_of_beq_eq_true j0
      subst e0
      exact zpe_el k0 (fun t ht ho => e_md_getsOut t ht ho)
    · cases h10
  · cases h)
