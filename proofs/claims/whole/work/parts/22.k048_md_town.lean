abbrev T_md_town : Type := Int32 × (Nat → Int32) × (Nat → Int32) × (Nat → Int32) × Int32 × Int32 × Int32 × Int32 × Int32 × Int32
abbrev U_md_town_27 : Type := Int32 × (Nat → Int32)
abbrev U_md_town_54 : Type := Int32 × Int32 × (Nat → Int32) × Int32 × Int32
abbrev U_md_town_112 : Type := Int32 × Int32 × (Nat → Int32) × (Nat → Int32)
def b_md_town_112 (b84 : Nat → Int32) (c64_6 : Int32) (c64_7 : Int32) (c64_8 : Int32) (c64_9 : Int32) (c64_12 : Int32) (c64_14 : Int32) (l4 : Int32) (l5 : Int32) (b65 : Nat → Int32) (b68 : Nat → Int32) : Option (U_md_town_112 ⊕ T_md_town) :=
  bif decide (96 ≤ l5) then
   some (.inr (l4, b65, b68, b84, c64_6, c64_7, c64_8, c64_9, c64_12, c64_14))
  else
   zg (zin l5 96) (
   zg (zin l5 96) (
   zg (g_md_becomesWhole l5 b65) (
   zl (a0_md_becomesWhole l5 b65) (fun v8 =>
   zg (g_md_isWood l5 (zup b68 (l5.toNatClampNeg) (b84 (l5.toNatClampNeg)))) (
   zl (w_md_isWood l5 (zup b68 (l5.toNatClampNeg) (b84 (l5.toNatClampNeg)))) (fun v9 =>
   bif decide (v9 = 0) then
    some (.inl (l4, l5 + 1, v8, (zup b68 (l5.toNatClampNeg) (b84 (l5.toNatClampNeg)))))
   else
    some (.inl (l4 + 1, l5 + 1, v8, (zup b68 (l5.toNatClampNeg) (b84 (l5.toNatClampNeg)))))))))))
def f_md_town_112 (b84 : Nat → Int32) (c64_6 : Int32) (c64_7 : Int32) (c64_8 : Int32) (c64_9 : Int32) (c64_12 : Int32) (c64_14 : Int32) : U_md_town_112 → Option (U_md_town_112 ⊕ T_md_town) := fun s => b_md_town_112 b84 c64_6 c64_7 c64_8 c64_9 c64_12 c64_14 s.1 s.2.1 s.2.2.1 s.2.2.2
noncomputable def l_md_town_112 (b84 : Nat → Int32) (c64_6 : Int32) (c64_7 : Int32) (c64_8 : Int32) (c64_9 : Int32) (c64_12 : Int32) (c64_14 : Int32) (l4 : Int32) (l5 : Int32) (b65 : Nat → Int32) (b68 : Nat → Int32) : Option T_md_town := zlp (f_md_town_112 b84 c64_6 c64_7 c64_8 c64_9 c64_12 c64_14) (l4, l5, b65, b68)
noncomputable def b_md_town_54 (a70 : Nat → Int32) (b65 : Nat → Int32) (b68 : Nat → Int32) (c64_8 : Int32) (c64_12 : Int32) (c64_14 : Int32) (l2 : Int32) (l3 : Int32) (b84 : Nat → Int32) (c64_7 : Int32) (c64_9 : Int32) : Option (U_md_town_54 ⊕ T_md_town) :=
  bif decide (l3 = 0) then
   bif !decide (l3 = 0) then
    zbd (l_md_town_112 b84 0 c64_7 c64_8 c64_9 c64_12 c64_14 0 0 b65 b68) (fun k => some (.inr k))
   else
    some (.inr (c64_9, b65, b68, b84, 0, c64_7, c64_8, c64_9, c64_12, c64_14))
  else
   bif decide (c64_8 ≤ c64_7) then
    bif !decide (l3 = 0) then
     zbd (l_md_town_112 b84 0 c64_7 c64_8 c64_9 c64_12 c64_14 0 0 b65 b68) (fun k => some (.inr k))
    else
     some (.inr (c64_9, b65, b68, b84, 0, c64_7, c64_8, c64_9, c64_12, c64_14))
   else
    zbd (q_md_readsRow l2 a70 b84 (c64_7 + 1) c64_8 c64_9) (fun v7 =>
    some (.inl (l2 + 1, (v7.1), ((v7.2.1)), (v7.2.2.1), (v7.2.2.2))))
noncomputable def f_md_town_54 (a70 : Nat → Int32) (b65 : Nat → Int32) (b68 : Nat → Int32) (c64_8 : Int32) (c64_12 : Int32) (c64_14 : Int32) : U_md_town_54 → Option (U_md_town_54 ⊕ T_md_town) := fun s => b_md_town_54 a70 b65 b68 c64_8 c64_12 c64_14 s.1 s.2.1 s.2.2.1 s.2.2.2.1 s.2.2.2.2
noncomputable def l_md_town_54 (a70 : Nat → Int32) (b65 : Nat → Int32) (b68 : Nat → Int32) (c64_8 : Int32) (c64_12 : Int32) (c64_14 : Int32) (l2 : Int32) (l3 : Int32) (b84 : Nat → Int32) (c64_7 : Int32) (c64_9 : Int32) : Option T_md_town := zlp (f_md_town_54 a70 b65 b68 c64_8 c64_12 c64_14) (l2, l3, b84, c64_7, c64_9)
noncomputable def b_md_town_27 (a70 : Nat → Int32) (b65 : Nat → Int32) (b68 : Nat → Int32) (c64_7 : Int32) (c64_8 : Int32) (c64_9 : Int32) (c64_12 : Int32) (c64_14 : Int32) (l2 : Int32) (b84 : Nat → Int32) : Option (U_md_town_27 ⊕ T_md_town) :=
  bif decide (96 ≤ l2) then
   zbd (q_md_readsRow 0 a70 b84 c64_7 c64_8 c64_9) (fun v6 =>
   zbd (l_md_town_54 a70 b65 b68 c64_8 c64_12 c64_14 1 ((v6.1)) ((v6.2.1)) ((v6.2.2.1)) ((v6.2.2.2))) (fun k => some (.inr k)))
  else
   zg (zin l2 96) (
   some (.inl (l2 + 1, (zup b84 (l2.toNatClampNeg) 0))))
noncomputable def f_md_town_27 (a70 : Nat → Int32) (b65 : Nat → Int32) (b68 : Nat → Int32) (c64_7 : Int32) (c64_8 : Int32) (c64_9 : Int32) (c64_12 : Int32) (c64_14 : Int32) : U_md_town_27 → Option (U_md_town_27 ⊕ T_md_town) := fun s => b_md_town_27 a70 b65 b68 c64_7 c64_8 c64_9 c64_12 c64_14 s.1 s.2
noncomputable def l_md_town_27 (a70 : Nat → Int32) (b65 : Nat → Int32) (b68 : Nat → Int32) (c64_7 : Int32) (c64_8 : Int32) (c64_9 : Int32) (c64_12 : Int32) (c64_14 : Int32) (l2 : Int32) (b84 : Nat → Int32) : Option T_md_town := zlp (f_md_town_27 a70 b65 b68 c64_7 c64_8 c64_9 c64_12 c64_14) (l2, b84)
noncomputable def q_md_town (x : Int32) (a65 : Nat → Int32) (a68 : Nat → Int32) (a70 : Nat → Int32) (a84 : Nat → Int32) (f64_6 : Int32) (f64_7 : Int32) (f64_8 : Int32) (f64_9 : Int32) (f64_12 : Int32) (f64_14 : Int32) : Option T_md_town :=
  zl (w_md_in x 1 120) (fun v1 =>
  bif decide (v1 = 0) then
   some ((-1), a65, a68, a84, f64_6, f64_7, f64_8, f64_9, f64_12, f64_14)
  else
   bif decide (x ≤ f64_6) then
    zl (f0_md_beginsText x) (fun v2 =>
    zl (f1_md_beginsText x) (fun v3 =>
    zl (f2_md_beginsText x) (fun v4 =>
    zl (f3_md_beginsText x) (fun v5 =>
    l_md_town_27 a70 a65 a68 v2 v3 (f64_9) v4 v5 0 a84))))
   else
    some ((-1), a65, a68, a84, f64_6, f64_7, f64_8, f64_9, f64_12, f64_14))
def P_md_town (Q : Int32 → (Nat → Int32) → (Nat → Int32) → (Nat → Int32) → (Nat → Int32) → Int32 → Int32 → Int32 → Int32 → Int32 → Int32 → Option (Int32 × (Nat → Int32) × (Nat → Int32) × (Nat → Int32) × Int32 × Int32 × Int32 × Int32 × Int32 × Int32)) : zSp := fun as g => match as with
  | [.ref a, .int x] => bif Nat.beq a 64 then zpe (Q x (g.1 65) (g.1 68) (g.1 70) (g.1 84) (g.2.1 64 6) (g.2.1 64 7) (g.2.1 64 8) (g.2.1 64 9) (g.2.1 64 12) (g.2.1 64 14)) (fun t => (some (.int (t.1)), ((zua (zua (zua g.1 65 t.2.1) 68 t.2.2.1) 84 t.2.2.2.1), (zuf (zuf (zuf (zuf (zuf (zuf g.2.1 64 6 t.2.2.2.2.1) 64 7 t.2.2.2.2.2.1) 64 8 t.2.2.2.2.2.2.1) 64 9 t.2.2.2.2.2.2.2.1) 64 12 t.2.2.2.2.2.2.2.2.1) 64 14 t.2.2.2.2.2.2.2.2.2), g.2.2))) else none
  | _ => none
noncomputable abbrev S_md_town : zSp := P_md_town q_md_town
theorem hF9_md_town (F : Nat → Nat → Int32) (w0 w1 w2 w3 : Int32) : (zuf (zuf (zuf (zuf F 64 7 w0) 64 8 w1) 64 12 w2) 64 14 w3) = (zuf (zuf (zuf (zuf (zuf (zuf F 64 6 (F 64 6)) 64 7 w0) 64 8 w1) 64 9 (F 64 9)) 64 12 w2) 64 14 w3) := zufk_ix F [((64, 7), w0), ((64, 8), w1), ((64, 12), w2), ((64, 14), w3)] [((64, 6), none), ((64, 7), some 0), ((64, 8), some 1), ((64, 9), none), ((64, 12), some 2), ((64, 14), some 3)] rfl
theorem hF8_md_town (F : Nat → Nat → Int32) : F = (zuf (zuf (zuf (zuf (zuf (zuf F 64 6 (F 64 6)) 64 7 (F 64 7)) 64 8 (F 64 8)) 64 9 (F 64 9)) 64 12 (F 64 12)) 64 14 (F 64 14)) := zufk_ix F [] [((64, 6), none), ((64, 7), none), ((64, 8), none), ((64, 9), none), ((64, 12), none), ((64, 14), none)] rfl
theorem hA7_md_town (F : Nat → Nat → Int32) : F = (zua (zua (zua F 65 (F 65)) 68 (F 68)) 84 (F 84)) := zuak_ix F [] [(65, none), (68, none), (84, none)] rfl
theorem hF6_md_town (F : Nat → Nat → Int32) (w0 w1 w2 w3 w4 w5 w6 w7 : Int32) : (zuf (zuf (zuf (zuf (zuf (zuf (zuf (zuf F 64 6 w0) 64 7 w1) 64 8 w2) 64 9 w3) 64 12 w4) 64 14 w5) 64 7 w6) 64 9 w7) = (zuf (zuf (zuf (zuf (zuf (zuf F 64 6 w0) 64 7 w6) 64 8 w2) 64 9 w7) 64 12 w4) 64 14 w5) := zufk_ix F [((64, 6), w0), ((64, 7), w1), ((64, 8), w2), ((64, 9), w3), ((64, 12), w4), ((64, 14), w5), ((64, 7), w6), ((64, 9), w7)] [((64, 6), some 0), ((64, 7), some 6), ((64, 8), some 2), ((64, 9), some 7), ((64, 12), some 4), ((64, 14), some 5)] rfl
theorem hF5_md_town (F : Nat → Nat → Int32) (w0 w1 w2 w3 w4 w5 w6 w7 w8 : Int32) : (zuf (zuf (zuf (zuf (zuf (zuf (zuf (zuf (zuf F 64 6 w0) 64 7 w1) 64 8 w2) 64 9 w3) 64 12 w4) 64 14 w5) 64 7 w6) 64 7 w7) 64 9 w8) = (zuf (zuf (zuf (zuf (zuf (zuf F 64 6 w0) 64 7 w7) 64 8 w2) 64 9 w8) 64 12 w4) 64 14 w5) := zufk_ix F [((64, 6), w0), ((64, 7), w1), ((64, 8), w2), ((64, 9), w3), ((64, 12), w4), ((64, 14), w5), ((64, 7), w6), ((64, 7), w7), ((64, 9), w8)] [((64, 6), some 0), ((64, 7), some 7), ((64, 8), some 2), ((64, 9), some 8), ((64, 12), some 4), ((64, 14), some 5)] rfl
theorem hA4_md_town (F : Nat → Nat → Int32) (w0 w1 w2 w3 : Nat → Int32) : (zua (zua (zua (zua F 65 w0) 68 w1) 84 w2) 84 w3) = (zua (zua (zua F 65 w0) 68 w1) 84 w3) := zuak_ix F [(65, w0), (68, w1), (84, w2), (84, w3)] [(65, some 0), (68, some 1), (84, some 3)] rfl
theorem hF3_md_town (F : Nat → Nat → Int32) (w0 w1 w2 w3 w4 w5 w6 : Int32) : (zuf (zuf (zuf (zuf (zuf (zuf (zuf F 64 6 w0) 64 7 w1) 64 8 w2) 64 9 w3) 64 12 w4) 64 14 w5) 64 6 w6) = (zuf (zuf (zuf (zuf (zuf (zuf F 64 6 w6) 64 7 w1) 64 8 w2) 64 9 w3) 64 12 w4) 64 14 w5) := zufk_ix F [((64, 6), w0), ((64, 7), w1), ((64, 8), w2), ((64, 9), w3), ((64, 12), w4), ((64, 14), w5), ((64, 6), w6)] [((64, 6), some 6), ((64, 7), some 1), ((64, 8), some 2), ((64, 9), some 3), ((64, 12), some 4), ((64, 14), some 5)] rfl
theorem hA2_md_town (F : Nat → Nat → Int32) (w0 w1 w2 w3 w4 : Nat → Int32) : (zua (zua (zua (zua (zua F 65 w0) 68 w1) 84 w2) 68 w3) 65 w4) = (zua (zua (zua F 65 w4) 68 w3) 84 w2) := zuak_ix F [(65, w0), (68, w1), (84, w2), (68, w3), (65, w4)] [(65, some 4), (68, some 3), (84, some 2)] rfl
theorem hF1_md_town (F : Nat → Nat → Int32) (w0 w1 w2 w3 w4 w5 : Int32) : (zuf (zuf (zuf (zuf (zuf (zuf F 64 6 w0) 64 7 w1) 64 8 w2) 64 9 w3) 64 12 w4) 64 14 w5) = (zuf (zuf (zuf (zuf (zuf (zuf F 64 6 w0) 64 7 w1) 64 8 w2) 64 9 w3) 64 12 w4) 64 14 w5) := zufk_ix F [((64, 6), w0), ((64, 7), w1), ((64, 8), w2), ((64, 9), w3), ((64, 12), w4), ((64, 14), w5)] [((64, 6), some 0), ((64, 7), some 1), ((64, 8), some 2), ((64, 9), some 3), ((64, 12), some 4), ((64, 14), some 5)] rfl
theorem hA0_md_town (F : Nat → Nat → Int32) (w0 w1 w2 : Nat → Int32) : (zua (zua (zua F 65 w0) 68 w1) 84 w2) = (zua (zua (zua F 65 w0) 68 w1) 84 w2) := zuak_ix F [(65, w0), (68, w1), (84, w2)] [(65, some 0), (68, some 1), (84, some 2)] rfl
def O_md_town (ar fi : Nat → Nat → Int32) (m1 : Nat) (m2 : Nat) (m3 : Nat) (m4 : Nat) (m5 : Nat) (t : T_md_town) : zO2 := match t with
  | (t0, t1, t2, t3, t4, t5, t6, t7, t8, t9) => (some (.int (t0)), ((zua (zua (zua ar 65 t1) 68 t2) 84 t3), (zuf (zuf (zuf (zuf (zuf (zuf fi 64 6 t4) 64 7 t5) 64 8 t6) 64 9 t7) 64 12 t8) 64 14 t9), (m1, m2, m3, m4, m5)))
def M_md_town_112 (X : Nat × (Nat → Int32)) (E : zTE) (ar fi : Nat → Nat → Int32) (m1 : Nat) (m2 : Nat) (m3 : Nat) (m4 : Nat) (m5 : Nat) (x : Int32) (l2 : Int32) (l3 : Int32) (b84 : Nat → Int32) (c64_6 : Int32) (c64_7 : Int32) (c64_8 : Int32) (c64_9 : Int32) (c64_12 : Int32) (c64_14 : Int32) (o : zO2) (s : U_md_town_112) : Prop := match s with
  | (l4, l5, b65, b68) => zR2 X zFT E zc_187 112 [.ref 64, .int x, .int l2, .int l3, .int l4, .int l5] [] ((zua (zua (zua ar 65 b65) 68 b68) 84 b84), (zuf (zuf (zuf (zuf (zuf (zuf fi 64 6 c64_6) 64 7 c64_7) 64 8 c64_8) 64 9 c64_9) 64 12 c64_12) 64 14 c64_14), (m1, m2, m3, m4, m5)) o
def M_md_town_54 (X : Nat × (Nat → Int32)) (E : zTE) (ar fi : Nat → Nat → Int32) (m1 : Nat) (m2 : Nat) (m3 : Nat) (m4 : Nat) (m5 : Nat) (x : Int32) (b65 : Nat → Int32) (b68 : Nat → Int32) (c64_6 : Int32) (c64_8 : Int32) (c64_12 : Int32) (c64_14 : Int32) (o : zO2) (s : U_md_town_54) : Prop := match s with
  | (l2, l3, b84, c64_7, c64_9) => zR2 X zFT E zc_187 54 [.ref 64, .int x, .int l2, .int l3] [] ((zua (zua (zua ar 65 b65) 68 b68) 84 b84), (zuf (zuf (zuf (zuf (zuf (zuf fi 64 6 c64_6) 64 7 c64_7) 64 8 c64_8) 64 9 c64_9) 64 12 c64_12) 64 14 c64_14), (m1, m2, m3, m4, m5)) o
def M_md_town_27 (X : Nat × (Nat → Int32)) (E : zTE) (ar fi : Nat → Nat → Int32) (m1 : Nat) (m2 : Nat) (m3 : Nat) (m4 : Nat) (m5 : Nat) (x : Int32) (b65 : Nat → Int32) (b68 : Nat → Int32) (c64_6 : Int32) (c64_7 : Int32) (c64_8 : Int32) (c64_9 : Int32) (c64_12 : Int32) (c64_14 : Int32) (o : zO2) (s : U_md_town_27) : Prop := match s with
  | (l2, b84) => zR2 X zFT E zc_187 27 [.ref 64, .int x, .int l2] [] ((zua (zua (zua ar 65 b65) 68 b68) 84 b84), (zuf (zuf (zuf (zuf (zuf (zuf fi 64 6 c64_6) 64 7 c64_7) 64 8 c64_8) 64 9 c64_9) 64 12 c64_12) 64 14 c64_14), (m1, m2, m3, m4, m5)) o
set_option maxRecDepth 1000000 in
theorem t112_md_town {X : Nat × (Nat → Int32)} {ar fi : Nat → Nat → Int32} {m1 m2 m3 m4 m5 : Nat} {x : Int32} {l2 : Int32} {l3 : Int32} {l4 : Int32} {l5 : Int32} {b65 : Nat → Int32} {b68 : Nat → Int32} {b84 : Nat → Int32} {c64_6 : Int32} {c64_7 : Int32} {c64_8 : Int32} {c64_9 : Int32} {c64_12 : Int32} {c64_14 : Int32} {W_md_in : Int32 → Int32 → Int32 → Int32} {F0_md_beginsText : Int32 → Int32} {F1_md_beginsText : Int32 → Int32} {F2_md_beginsText : Int32 → Int32} {F3_md_beginsText : Int32 → Int32} {Q_md_readsRow : Int32 → (Nat → Int32) → (Nat → Int32) → Int32 → Int32 → Int32 → Option (Int32 × (Nat → Int32) × Int32 × Int32)} {G_md_becomesWhole : Int32 → (Nat → Int32) → Bool} {A0_md_becomesWhole : Int32 → (Nat → Int32) → Nat → Int32} {G_md_isWood : Int32 → (Nat → Int32) → Bool} {W_md_isWood : Int32 → (Nat → Int32) → Int32} : zseg X zFT (zEx 143 (P_md_in W_md_in) (zEx 178 (P_md_beginsText F0_md_beginsText F1_md_beginsText F2_md_beginsText F3_md_beginsText) (zEx 186 (P_md_readsRow Q_md_readsRow) (zEx 188 (P_md_becomesWhole G_md_becomesWhole A0_md_becomesWhole) (zEx 152 (P_md_isWood G_md_isWood W_md_isWood) zE0))))) zc_187 (fun p => Nat.beq p 27 || Nat.beq p 54 || Nat.beq p 112) 400 112 [.ref 64, .int x, .int l2, .int l3, .int l4, .int l5] [] ((zua (zua (zua ar 65 b65) 68 b68) 84 b84), (zuf (zuf (zuf (zuf (zuf (zuf fi 64 6 c64_6) 64 7 c64_7) 64 8 c64_8) 64 9 c64_9) 64 12 c64_12) 64 14 c64_14), (m1, m2, m3, m4, m5)) = (
  bif decide (96 ≤ l5) then
   some (.inr (some (.int l4), ((zua (zua (zua ar 65 b65) 68 b68) 84 b84), (zuf (zuf (zuf (zuf (zuf (zuf fi 64 6 c64_6) 64 7 c64_7) 64 8 c64_8) 64 9 c64_9) 64 12 c64_12) 64 14 c64_14), (m1, m2, m3, m4, m5))))
  else
   zg (Nat.beq 16 16 && (zin l5 96)) (
   zg (Nat.beq 16 16 && (zin l5 96)) (
   zg (G_md_becomesWhole l5 b65) (
   zl (A0_md_becomesWhole l5 b65) (fun v8 =>
   zg (G_md_isWood l5 (zup b68 (l5.toNatClampNeg) (b84 (l5.toNatClampNeg)))) (
   zl (W_md_isWood l5 (zup b68 (l5.toNatClampNeg) (b84 (l5.toNatClampNeg)))) (fun v9 =>
   bif decide (v9 = 0) then
    some (.inl (112, [.ref 64, .int x, .int l2, .int l3, .int l4, .int (l5 + 1)], [], ((zua (zua (zua (zua (zua ar 65 b65) 68 b68) 84 b84) 68 (zup b68 (l5.toNatClampNeg) (b84 (l5.toNatClampNeg)))) 65 v8), (zuf (zuf (zuf (zuf (zuf (zuf fi 64 6 c64_6) 64 7 c64_7) 64 8 c64_8) 64 9 c64_9) 64 12 c64_12) 64 14 c64_14), (m1, m2, m3, m4, m5))))
   else
    some (.inl (112, [.ref 64, .int x, .int l2, .int l3, .int (l4 + 1), .int (l5 + 1)], [], ((zua (zua (zua (zua (zua ar 65 b65) 68 b68) 84 b84) 68 (zup b68 (l5.toNatClampNeg) (b84 (l5.toNatClampNeg)))) 65 v8), (zuf (zuf (zuf (zuf (zuf (zuf fi 64 6 c64_6) 64 7 c64_7) 64 8 c64_8) 64 9 c64_9) 64 12 c64_12) 64 14 c64_14), (m1, m2, m3, m4, m5)))))))))) : Option ((Nat × List Value × List Value × zH2) ⊕ zO2)) := by with_unfolding_all rfl
set_option maxRecDepth 20000 in
theorem k_md_town_112 {X : Nat × (Nat → Int32)} {ar fi : Nat → Nat → Int32} {m1 m2 m3 m4 m5 : Nat} {x : Int32} {l2 : Int32} {l3 : Int32} {b84 : Nat → Int32} {c64_6 : Int32} {c64_7 : Int32} {c64_8 : Int32} {c64_9 : Int32} {c64_12 : Int32} {c64_14 : Int32} {o : zO2} : ∀ (s : U_md_town_112) (q : U_md_town_112 ⊕ T_md_town), f_md_town_112 b84 c64_6 c64_7 c64_8 c64_9 c64_12 c64_14 s = some q → zq (M_md_town_112 X (zEx 143 S_md_in (zEx 178 S_md_beginsText (zEx 186 S_md_readsRow (zEx 188 S_md_becomesWhole (zEx 152 S_md_isWood zE0))))) ar fi m1 m2 m3 m4 m5 x l2 l3 b84 c64_6 c64_7 c64_8 c64_9 c64_12 c64_14 o) (fun t => O_md_town ar fi m1 m2 m3 m4 m5 t = o) q → M_md_town_112 X (zEx 143 S_md_in (zEx 178 S_md_beginsText (zEx 186 S_md_readsRow (zEx 188 S_md_becomesWhole (zEx 152 S_md_isWood zE0))))) ar fi m1 m2 m3 m4 m5 x l2 l3 b84 c64_6 c64_7 c64_8 c64_9 c64_12 c64_14 o s := by
  intro s q h hq
  obtain ⟨l4, l5, b65, b68⟩ := s
  have h : b_md_town_112 b84 c64_6 c64_7 c64_8 c64_9 c64_12 c64_14 l4 l5 b65 b68 = some q := h
  unfold b_md_town_112 at h
  show zR2 X zFT (zEx 143 S_md_in (zEx 178 S_md_beginsText (zEx 186 S_md_readsRow (zEx 188 S_md_becomesWhole (zEx 152 S_md_isWood zE0))))) zc_187 112 [.ref 64, .int x, .int l2, .int l3, .int l4, .int l5] [] ((zua (zua (zua ar 65 b65) 68 b68) 84 b84), (zuf (zuf (zuf (zuf (zuf (zuf fi 64 6 c64_6) 64 7 c64_7) 64 8 c64_8) 64 9 c64_9) 64 12 c64_12) 64 14 c64_14), (m1, m2, m3, m4, m5)) o
  refine zT_seg t112_md_town ?_
  obtain ⟨TT, hTT⟩ : ∃ T, T = zT X zFT (zEx 143 S_md_in (zEx 178 S_md_beginsText (zEx 186 S_md_readsRow (zEx 188 S_md_becomesWhole (zEx 152 S_md_isWood zE0))))) zc_187 o := ⟨_, rfl⟩
  rw [← hTT]
  refine zb_el h (fun hb h => zU_t hTT hb ?_) (fun hb h => zU_f hTT hb ?_)
  · rw [hTT]
    have hz := zsi h hq
    refine (zO_mk ?_ ?_).trans hz
    · first | with_reducible rfl | exact hA0_md_town _ _ _ _
    · first | with_reducible rfl | exact hF1_md_town _ _ _ _ _ _ _
  · refine zg_el h (fun hg h => zU_ga hTT hg ?_)
    refine zg_el h (fun hg h => zU_ga hTT hg ?_)
    refine zg_el h (fun hg h => zU_g hTT hg ?_)
    refine zl_el h (fun h => zU_l hTT ?_)
    refine zg_el h (fun hg h => zU_g hTT hg ?_)
    refine zl_el h (fun h => zU_l hTT ?_)
    refine zb_el h (fun hb h => zU_t hTT hb ?_) (fun hb h => zU_f hTT hb ?_)
    · rw [hTT]
      have hz := zsi h hq
      refine zR2_hp ?_ ?_ hz
      · first | with_reducible rfl | exact hA2_md_town _ _ _ _ _ _
      · first | with_reducible rfl | exact hF1_md_town _ _ _ _ _ _ _
    · rw [hTT]
      have hz := zsi h hq
      refine zR2_hp ?_ ?_ hz
      · first | with_reducible rfl | exact hA2_md_town _ _ _ _ _ _
      · first | with_reducible rfl | exact hF1_md_town _ _ _ _ _ _ _
set_option maxRecDepth 1000000 in
theorem t54_md_town {X : Nat × (Nat → Int32)} {ar fi : Nat → Nat → Int32} {m1 m2 m3 m4 m5 : Nat} {x : Int32} {l2 : Int32} {l3 : Int32} {b65 : Nat → Int32} {b68 : Nat → Int32} {b84 : Nat → Int32} {c64_6 : Int32} {c64_7 : Int32} {c64_8 : Int32} {c64_9 : Int32} {c64_12 : Int32} {c64_14 : Int32} {W_md_in : Int32 → Int32 → Int32 → Int32} {F0_md_beginsText : Int32 → Int32} {F1_md_beginsText : Int32 → Int32} {F2_md_beginsText : Int32 → Int32} {F3_md_beginsText : Int32 → Int32} {Q_md_readsRow : Int32 → (Nat → Int32) → (Nat → Int32) → Int32 → Int32 → Int32 → Option (Int32 × (Nat → Int32) × Int32 × Int32)} {G_md_becomesWhole : Int32 → (Nat → Int32) → Bool} {A0_md_becomesWhole : Int32 → (Nat → Int32) → Nat → Int32} {G_md_isWood : Int32 → (Nat → Int32) → Bool} {W_md_isWood : Int32 → (Nat → Int32) → Int32} : zseg X zFT (zEx 143 (P_md_in W_md_in) (zEx 178 (P_md_beginsText F0_md_beginsText F1_md_beginsText F2_md_beginsText F3_md_beginsText) (zEx 186 (P_md_readsRow Q_md_readsRow) (zEx 188 (P_md_becomesWhole G_md_becomesWhole A0_md_becomesWhole) (zEx 152 (P_md_isWood G_md_isWood W_md_isWood) zE0))))) zc_187 (fun p => Nat.beq p 27 || Nat.beq p 54 || Nat.beq p 112) 400 54 [.ref 64, .int x, .int l2, .int l3] [] ((zua (zua (zua ar 65 b65) 68 b68) 84 b84), (zuf (zuf (zuf (zuf (zuf (zuf fi 64 6 c64_6) 64 7 c64_7) 64 8 c64_8) 64 9 c64_9) 64 12 c64_12) 64 14 c64_14), (m1, m2, m3, m4, m5)) = (
  bif decide (l3 = 0) then
   bif !decide (l3 = 0) then
    some (.inl (112, [.ref 64, .int x, .int l2, .int l3, .int 0, .int 0], [], ((zua (zua (zua ar 65 b65) 68 b68) 84 b84), (zuf (zuf (zuf (zuf (zuf (zuf (zuf fi 64 6 c64_6) 64 7 c64_7) 64 8 c64_8) 64 9 c64_9) 64 12 c64_12) 64 14 c64_14) 64 6 0), (m1, m2, m3, m4, m5))))
   else
    some (.inr (some (.int c64_9), ((zua (zua (zua ar 65 b65) 68 b68) 84 b84), (zuf (zuf (zuf (zuf (zuf (zuf (zuf fi 64 6 c64_6) 64 7 c64_7) 64 8 c64_8) 64 9 c64_9) 64 12 c64_12) 64 14 c64_14) 64 6 0), (m1, m2, m3, m4, m5))))
  else
   bif decide (c64_8 ≤ c64_7) then
    bif !decide (l3 = 0) then
     some (.inl (112, [.ref 64, .int x, .int l2, .int l3, .int 0, .int 0], [], ((zua (zua (zua ar 65 b65) 68 b68) 84 b84), (zuf (zuf (zuf (zuf (zuf (zuf (zuf fi 64 6 c64_6) 64 7 c64_7) 64 8 c64_8) 64 9 c64_9) 64 12 c64_12) 64 14 c64_14) 64 6 0), (m1, m2, m3, m4, m5))))
    else
     some (.inr (some (.int c64_9), ((zua (zua (zua ar 65 b65) 68 b68) 84 b84), (zuf (zuf (zuf (zuf (zuf (zuf (zuf fi 64 6 c64_6) 64 7 c64_7) 64 8 c64_8) 64 9 c64_9) 64 12 c64_12) 64 14 c64_14) 64 6 0), (m1, m2, m3, m4, m5))))
   else
    zl (Q_md_readsRow l2 (ar 70) b84 (c64_7 + 1) c64_8 c64_9) (fun v7 => zg v7.isSome (
    some (.inl (54, [.ref 64, .int x, .int (l2 + 1), .int (((zgt v7).1))], [], ((zua (zua (zua (zua ar 65 b65) 68 b68) 84 b84) 84 (((zgt v7).2.1))), (zuf (zuf (zuf (zuf (zuf (zuf (zuf (zuf (zuf fi 64 6 c64_6) 64 7 c64_7) 64 8 c64_8) 64 9 c64_9) 64 12 c64_12) 64 14 c64_14) 64 7 (c64_7 + 1)) 64 7 (((zgt v7).2.2.1))) 64 9 (((zgt v7).2.2.2))), (m1, m2, m3, m4, m5)))))) : Option ((Nat × List Value × List Value × zH2) ⊕ zO2)) := by with_unfolding_all rfl
set_option maxRecDepth 20000 in
theorem k_md_town_54 {X : Nat × (Nat → Int32)} {ar fi : Nat → Nat → Int32} {m1 m2 m3 m4 m5 : Nat} {x : Int32} {b65 : Nat → Int32} {b68 : Nat → Int32} {c64_6 : Int32} {c64_8 : Int32} {c64_12 : Int32} {c64_14 : Int32} {o : zO2} : ∀ (s : U_md_town_54) (q : U_md_town_54 ⊕ T_md_town), f_md_town_54 (ar 70) b65 b68 c64_8 c64_12 c64_14 s = some q → zq (M_md_town_54 X (zEx 143 S_md_in (zEx 178 S_md_beginsText (zEx 186 S_md_readsRow (zEx 188 S_md_becomesWhole (zEx 152 S_md_isWood zE0))))) ar fi m1 m2 m3 m4 m5 x b65 b68 c64_6 c64_8 c64_12 c64_14 o) (fun t => O_md_town ar fi m1 m2 m3 m4 m5 t = o) q → M_md_town_54 X (zEx 143 S_md_in (zEx 178 S_md_beginsText (zEx 186 S_md_readsRow (zEx 188 S_md_becomesWhole (zEx 152 S_md_isWood zE0))))) ar fi m1 m2 m3 m4 m5 x b65 b68 c64_6 c64_8 c64_12 c64_14 o s := by
  intro s q h hq
  obtain ⟨l2, l3, b84, c64_7, c64_9⟩ := s
  have h : b_md_town_54 (ar 70) b65 b68 c64_8 c64_12 c64_14 l2 l3 b84 c64_7 c64_9 = some q := h
  unfold b_md_town_54 at h
  show zR2 X zFT (zEx 143 S_md_in (zEx 178 S_md_beginsText (zEx 186 S_md_readsRow (zEx 188 S_md_becomesWhole (zEx 152 S_md_isWood zE0))))) zc_187 54 [.ref 64, .int x, .int l2, .int l3] [] ((zua (zua (zua ar 65 b65) 68 b68) 84 b84), (zuf (zuf (zuf (zuf (zuf (zuf fi 64 6 c64_6) 64 7 c64_7) 64 8 c64_8) 64 9 c64_9) 64 12 c64_12) 64 14 c64_14), (m1, m2, m3, m4, m5)) o
  refine zT_seg t54_md_town ?_
  obtain ⟨TT, hTT⟩ : ∃ T, T = zT X zFT (zEx 143 S_md_in (zEx 178 S_md_beginsText (zEx 186 S_md_readsRow (zEx 188 S_md_becomesWhole (zEx 152 S_md_isWood zE0))))) zc_187 o := ⟨_, rfl⟩
  rw [← hTT]
  refine zb_el h (fun hb h => zU_t hTT hb ?_) (fun hb h => zU_f hTT hb ?_)
  · refine zb_el h (fun hb h => zU_t hTT hb ?_) (fun hb h => zU_f hTT hb ?_)
    · rw [hTT]
      refine zbd_el h (fun r hr h => ?_)
      have hz := zsi h hq
      refine zR2_hp ?_ ?_ (zlp_K k_md_town_112 hr hz)
      · first | with_reducible rfl | exact hA0_md_town _ _ _ _
      · first | with_reducible rfl | exact hF3_md_town _ _ _ _ _ _ _ _
    · rw [hTT]
      have hz := zsi h hq
      refine (zO_mk ?_ ?_).trans hz
      · first | with_reducible rfl | exact hA0_md_town _ _ _ _
      · first | with_reducible rfl | exact hF3_md_town _ _ _ _ _ _ _ _
  · refine zb_el h (fun hb h => zU_t hTT hb ?_) (fun hb h => zU_f hTT hb ?_)
    · refine zb_el h (fun hb h => zU_t hTT hb ?_) (fun hb h => zU_f hTT hb ?_)
      · rw [hTT]
        refine zbd_el h (fun r hr h => ?_)
        have hz := zsi h hq
        refine zR2_hp ?_ ?_ (zlp_K k_md_town_112 hr hz)
        · first | with_reducible rfl | exact hA0_md_town _ _ _ _
        · first | with_reducible rfl | exact hF3_md_town _ _ _ _ _ _ _ _
      · rw [hTT]
        have hz := zsi h hq
        refine (zO_mk ?_ ?_).trans hz
        · first | with_reducible rfl | exact hA0_md_town _ _ _ _
        · first | with_reducible rfl | exact hF3_md_town _ _ _ _ _ _ _ _
    · refine zbd_el h (fun v7 hv h => zU_c hTT hv ?_)
      rw [hTT]
      have hz := zsi h hq
      refine zR2_hp ?_ ?_ hz
      · first | with_reducible rfl | exact hA4_md_town _ _ _ _ _
      · first | with_reducible rfl | exact hF5_md_town _ _ _ _ _ _ _ _ _ _
set_option maxRecDepth 1000000 in
theorem t27_md_town {X : Nat × (Nat → Int32)} {ar fi : Nat → Nat → Int32} {m1 m2 m3 m4 m5 : Nat} {x : Int32} {l2 : Int32} {b65 : Nat → Int32} {b68 : Nat → Int32} {b84 : Nat → Int32} {c64_6 : Int32} {c64_7 : Int32} {c64_8 : Int32} {c64_9 : Int32} {c64_12 : Int32} {c64_14 : Int32} {W_md_in : Int32 → Int32 → Int32 → Int32} {F0_md_beginsText : Int32 → Int32} {F1_md_beginsText : Int32 → Int32} {F2_md_beginsText : Int32 → Int32} {F3_md_beginsText : Int32 → Int32} {Q_md_readsRow : Int32 → (Nat → Int32) → (Nat → Int32) → Int32 → Int32 → Int32 → Option (Int32 × (Nat → Int32) × Int32 × Int32)} {G_md_becomesWhole : Int32 → (Nat → Int32) → Bool} {A0_md_becomesWhole : Int32 → (Nat → Int32) → Nat → Int32} {G_md_isWood : Int32 → (Nat → Int32) → Bool} {W_md_isWood : Int32 → (Nat → Int32) → Int32} : zseg X zFT (zEx 143 (P_md_in W_md_in) (zEx 178 (P_md_beginsText F0_md_beginsText F1_md_beginsText F2_md_beginsText F3_md_beginsText) (zEx 186 (P_md_readsRow Q_md_readsRow) (zEx 188 (P_md_becomesWhole G_md_becomesWhole A0_md_becomesWhole) (zEx 152 (P_md_isWood G_md_isWood W_md_isWood) zE0))))) zc_187 (fun p => Nat.beq p 27 || Nat.beq p 54 || Nat.beq p 112) 400 27 [.ref 64, .int x, .int l2] [] ((zua (zua (zua ar 65 b65) 68 b68) 84 b84), (zuf (zuf (zuf (zuf (zuf (zuf fi 64 6 c64_6) 64 7 c64_7) 64 8 c64_8) 64 9 c64_9) 64 12 c64_12) 64 14 c64_14), (m1, m2, m3, m4, m5)) = (
  bif decide (96 ≤ l2) then
   zl (Q_md_readsRow 0 (ar 70) b84 c64_7 c64_8 c64_9) (fun v6 => zg v6.isSome (
   some (.inl (54, [.ref 64, .int x, .int 1, .int (((zgt v6).1))], [], ((zua (zua (zua (zua ar 65 b65) 68 b68) 84 b84) 84 (((zgt v6).2.1))), (zuf (zuf (zuf (zuf (zuf (zuf (zuf (zuf fi 64 6 c64_6) 64 7 c64_7) 64 8 c64_8) 64 9 c64_9) 64 12 c64_12) 64 14 c64_14) 64 7 (((zgt v6).2.2.1))) 64 9 (((zgt v6).2.2.2))), (m1, m2, m3, m4, m5))))))
  else
   zg (Nat.beq 16 16 && (zin l2 96)) (
   some (.inl (27, [.ref 64, .int x, .int (l2 + 1)], [], ((zua (zua (zua (zua ar 65 b65) 68 b68) 84 b84) 84 (zup b84 (l2.toNatClampNeg) 0)), (zuf (zuf (zuf (zuf (zuf (zuf fi 64 6 c64_6) 64 7 c64_7) 64 8 c64_8) 64 9 c64_9) 64 12 c64_12) 64 14 c64_14), (m1, m2, m3, m4, m5))))) : Option ((Nat × List Value × List Value × zH2) ⊕ zO2)) := by with_unfolding_all rfl
set_option maxRecDepth 20000 in
theorem k_md_town_27 {X : Nat × (Nat → Int32)} {ar fi : Nat → Nat → Int32} {m1 m2 m3 m4 m5 : Nat} {x : Int32} {b65 : Nat → Int32} {b68 : Nat → Int32} {c64_6 : Int32} {c64_7 : Int32} {c64_8 : Int32} {c64_9 : Int32} {c64_12 : Int32} {c64_14 : Int32} {o : zO2} : ∀ (s : U_md_town_27) (q : U_md_town_27 ⊕ T_md_town), f_md_town_27 (ar 70) b65 b68 c64_7 c64_8 c64_9 c64_12 c64_14 s = some q → zq (M_md_town_27 X (zEx 143 S_md_in (zEx 178 S_md_beginsText (zEx 186 S_md_readsRow (zEx 188 S_md_becomesWhole (zEx 152 S_md_isWood zE0))))) ar fi m1 m2 m3 m4 m5 x b65 b68 c64_6 c64_7 c64_8 c64_9 c64_12 c64_14 o) (fun t => O_md_town ar fi m1 m2 m3 m4 m5 t = o) q → M_md_town_27 X (zEx 143 S_md_in (zEx 178 S_md_beginsText (zEx 186 S_md_readsRow (zEx 188 S_md_becomesWhole (zEx 152 S_md_isWood zE0))))) ar fi m1 m2 m3 m4 m5 x b65 b68 c64_6 c64_7 c64_8 c64_9 c64_12 c64_14 o s := by
  intro s q h hq
  obtain ⟨l2, b84⟩ := s
  have h : b_md_town_27 (ar 70) b65 b68 c64_7 c64_8 c64_9 c64_12 c64_14 l2 b84 = some q := h
  unfold b_md_town_27 at h
  show zR2 X zFT (zEx 143 S_md_in (zEx 178 S_md_beginsText (zEx 186 S_md_readsRow (zEx 188 S_md_becomesWhole (zEx 152 S_md_isWood zE0))))) zc_187 27 [.ref 64, .int x, .int l2] [] ((zua (zua (zua ar 65 b65) 68 b68) 84 b84), (zuf (zuf (zuf (zuf (zuf (zuf fi 64 6 c64_6) 64 7 c64_7) 64 8 c64_8) 64 9 c64_9) 64 12 c64_12) 64 14 c64_14), (m1, m2, m3, m4, m5)) o
  refine zT_seg t27_md_town ?_
  obtain ⟨TT, hTT⟩ : ∃ T, T = zT X zFT (zEx 143 S_md_in (zEx 178 S_md_beginsText (zEx 186 S_md_readsRow (zEx 188 S_md_becomesWhole (zEx 152 S_md_isWood zE0))))) zc_187 o := ⟨_, rfl⟩
  rw [← hTT]
  refine zb_el h (fun hb h => zU_t hTT hb ?_) (fun hb h => zU_f hTT hb ?_)
  · refine zbd_el h (fun v6 hv h => zU_c hTT hv ?_)
    rw [hTT]
    refine zbd_el h (fun r hr h => ?_)
    have hz := zsi h hq
    apply zR2_hp ?hA ?hF (zlp_K k_md_town_54 hr hz)
    case hA => first | with_reducible rfl | exact hA4_md_town _ _ _ _ _
    case hF => first | with_reducible rfl | exact hF6_md_town _ _ _ _ _ _ _ _ _
  · refine zg_el h (fun hg h => zU_ga hTT hg ?_)
    rw [hTT]
    have hz := zsi h hq
    refine zR2_hp ?_ ?_ hz
    · first | with_reducible rfl | exact hA4_md_town _ _ _ _ _
    · first | with_reducible rfl | exact hF1_md_town _ _ _ _ _ _ _
set_option maxRecDepth 1000000 in
theorem t_md_town {X : Nat × (Nat → Int32)} {ar fi : Nat → Nat → Int32} {m1 m2 m3 m4 m5 : Nat} {x : Int32} {W_md_in : Int32 → Int32 → Int32 → Int32} {F0_md_beginsText : Int32 → Int32} {F1_md_beginsText : Int32 → Int32} {F2_md_beginsText : Int32 → Int32} {F3_md_beginsText : Int32 → Int32} {Q_md_readsRow : Int32 → (Nat → Int32) → (Nat → Int32) → Int32 → Int32 → Int32 → Option (Int32 × (Nat → Int32) × Int32 × Int32)} {G_md_becomesWhole : Int32 → (Nat → Int32) → Bool} {A0_md_becomesWhole : Int32 → (Nat → Int32) → Nat → Int32} {G_md_isWood : Int32 → (Nat → Int32) → Bool} {W_md_isWood : Int32 → (Nat → Int32) → Int32} : zseg X zFT (zEx 143 (P_md_in W_md_in) (zEx 178 (P_md_beginsText F0_md_beginsText F1_md_beginsText F2_md_beginsText F3_md_beginsText) (zEx 186 (P_md_readsRow Q_md_readsRow) (zEx 188 (P_md_becomesWhole G_md_becomesWhole A0_md_becomesWhole) (zEx 152 (P_md_isWood G_md_isWood W_md_isWood) zE0))))) zc_187 (fun p => Nat.beq p 27 || Nat.beq p 54 || Nat.beq p 112) 400 0 [.ref 64, .int x] [] (ar, fi, (m1, m2, m3, m4, m5)) = (
  zl (W_md_in x 1 120) (fun v1 =>
  bif decide (v1 = 0) then
   some (.inr (some (.int (-1)), (ar, fi, (m1, m2, m3, m4, m5))))
  else
   bif decide (x ≤ fi 64 6) then
    zl (F0_md_beginsText x) (fun v2 =>
    zl (F1_md_beginsText x) (fun v3 =>
    zl (F2_md_beginsText x) (fun v4 =>
    zl (F3_md_beginsText x) (fun v5 =>
    some (.inl (27, [.ref 64, .int x, .int 0], [], (ar, (zuf (zuf (zuf (zuf fi 64 7 v2) 64 8 v3) 64 12 v4) 64 14 v5), (m1, m2, m3, m4, m5))))))))
   else
    some (.inr (some (.int (-1)), (ar, fi, (m1, m2, m3, m4, m5))))) : Option ((Nat × List Value × List Value × zH2) ⊕ zO2)) := by with_unfolding_all rfl
set_option maxRecDepth 20000 in
theorem e_md_town {X : Nat × (Nat → Int32)} {ar fi : Nat → Nat → Int32} {m1 m2 m3 m4 m5 : Nat} {x : Int32} {o : zO2} : ∀ (q : T_md_town), q_md_town x (ar 65) (ar 68) (ar 70) (ar 84) (fi 64 6) (fi 64 7) (fi 64 8) (fi 64 9) (fi 64 12) (fi 64 14) = some q → (fun t => O_md_town ar fi m1 m2 m3 m4 m5 t = o) q → zR2 X zFT (zEx 143 S_md_in (zEx 178 S_md_beginsText (zEx 186 S_md_readsRow (zEx 188 S_md_becomesWhole (zEx 152 S_md_isWood zE0))))) zc_187 0 [.ref 64, .int x] [] (ar, fi, (m1, m2, m3, m4, m5)) o := by
  intro q h hq
  unfold q_md_town at h
  refine zT_seg t_md_town ?_
  obtain ⟨TT, hTT⟩ : ∃ T, T = zT X zFT (zEx 143 S_md_in (zEx 178 S_md_beginsText (zEx 186 S_md_readsRow (zEx 188 S_md_becomesWhole (zEx 152 S_md_isWood zE0))))) zc_187 o := ⟨_, rfl⟩
  rw [← hTT]
  refine zl_el h (fun h => zU_l hTT ?_)
  refine zb_el h (fun hb h => zU_t hTT hb ?_) (fun hb h => zU_f hTT hb ?_)
  · rw [hTT]
    have hz := zsi (P := (fun t => O_md_town ar fi m1 m2 m3 m4 m5 t = o)) h hq
    refine (zO_mk ?_ ?_).trans hz
    · first | with_reducible rfl | exact hA7_md_town _
    · first | with_reducible rfl | exact hF8_md_town _
  · refine zb_el h (fun hb h => zU_t hTT hb ?_) (fun hb h => zU_f hTT hb ?_)
    · refine zl_el h (fun h => zU_l hTT ?_)
      refine zl_el h (fun h => zU_l hTT ?_)
      refine zl_el h (fun h => zU_l hTT ?_)
      refine zl_el h (fun h => zU_l hTT ?_)
      rw [hTT]
      apply zR2_hp ?hA ?hF (zlp_K k_md_town_27 h hq)
      case hA => first | with_reducible rfl | exact hA7_md_town _
      case hF => first | with_reducible rfl | exact hF9_md_town _ _ _ _ _
    · rw [hTT]
      have hz := zsi (P := (fun t => O_md_town ar fi m1 m2 m3 m4 m5 t = o)) h hq
      refine (zO_mk ?_ ?_).trans hz
      · first | with_reducible rfl | exact hA7_md_town _
      · first | with_reducible rfl | exact hF8_md_town _
theorem ok_md_town (X : Nat × (Nat → Int32)) : zOkS X 187 S_md_town 4 := zOkS_new (zOkE_cons (ok_md_in X) (by decide) (zOkE_cons (ok_md_beginsText X) (by decide) (zOkE_cons (ok_md_readsRow X) (by decide) (zOkE_cons (ok_md_becomesWhole X) (by decide) (zOkE_cons (ok_md_isWood X) (by decide) (zOkE_nil X 3)))))) (by
  intro args g o h
  obtain ⟨ar, fi, m1, m2, m3, m4, m5⟩ := g
  unfold S_md_town P_md_town at h
  split at h
  · refine zb_el h (fun hI0 k0 => ?_) (fun _ h10 => ?_)
    · try simp only [Bool.and_eq_true] at hI0
      have j0 := hI0
      have e0 := Nat.eq_of_beq_eq_true j0
      subst e0
      exact zpe_el k0 (fun t ht ho => by obtain ⟨t0, t1, t2, t3, t4, t5, t6, t7, t8, t9⟩ := t; exact e_md_town _ ht ho)
    · cases h10
  · cases h)
