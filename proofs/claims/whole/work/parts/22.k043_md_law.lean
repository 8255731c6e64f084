abbrev T_md_law : Type := Int32 × (Nat → Int32) × (Nat → Int32) × (Nat → Int32) × (Nat → Int32) × (Nat → Int32) × (Nat → Int32) × (Nat → Int32) × (Nat → Int32) × (Nat → Int32) × (Nat → Int32) × (Nat → Int32) × Int32 × Int32 × Int32 × Int32 × Int32 × Int32 × Int32 × Int32 × Int32 × Int32
abbrev U_md_law_31 : Type := Int32 × (Nat → Int32) × (Nat → Int32) × (Nat → Int32) × (Nat → Int32) × (Nat → Int32) × (Nat → Int32) × Int32 × Int32 × Int32 × Int32 × Int32 × Int32 × Int32
abbrev U_md_law_95 : Type := Int32 × (Nat → Int32)
abbrev U_md_law_123 : Type := Int32 × (Nat → Int32) × (Nat → Int32) × (Nat → Int32) × (Nat → Int32)
def b_md_law_123 (b71 : Nat → Int32) (b72 : Nat → Int32) (b73 : Nat → Int32) (b74 : Nat → Int32) (b75 : Nat → Int32) (b76 : Nat → Int32) (b77 : Nat → Int32) (c64_6 : Int32) (c64_7 : Int32) (c64_8 : Int32) (c64_9 : Int32) (c64_10 : Int32) (c64_11 : Int32) (c64_12 : Int32) (c64_13 : Int32) (c64_14 : Int32) (c64_15 : Int32) (l3 : Int32) (b78 : Nat → Int32) (b79 : Nat → Int32) (b80 : Nat → Int32) (b81 : Nat → Int32) : Option (U_md_law_123 ⊕ T_md_law) :=
  bif decide (c64_14 ≤ l3) then
   some (.inr (c64_14, b71, b72, b73, b74, b75, b76, b77, b78, b79, b80, b81, c64_6, c64_7, c64_8, c64_9, c64_10, c64_11, c64_12, c64_13, c64_14, c64_15))
  else
   zg (zin l3 16) (
   zg (zin l3 16) (
   zg (zin l3 16) (
   zg (zin l3 16) (
   zg (zin l3 16) (
   zg (zin l3 16) (
   zg (zin l3 16) (
   zg (zin l3 16) (
   some (.inl (l3 + 1, (zup b78 (l3.toNatClampNeg) (b73 (l3.toNatClampNeg))), (zup b79 (l3.toNatClampNeg) (b74 (l3.toNatClampNeg))), (zup b80 (l3.toNatClampNeg) (b75 (l3.toNatClampNeg))), (zup b81 (l3.toNatClampNeg) (b76 (l3.toNatClampNeg)))))))))))))
def f_md_law_123 (b71 : Nat → Int32) (b72 : Nat → Int32) (b73 : Nat → Int32) (b74 : Nat → Int32) (b75 : Nat → Int32) (b76 : Nat → Int32) (b77 : Nat → Int32) (c64_6 : Int32) (c64_7 : Int32) (c64_8 : Int32) (c64_9 : Int32) (c64_10 : Int32) (c64_11 : Int32) (c64_12 : Int32) (c64_13 : Int32) (c64_14 : Int32) (c64_15 : Int32) : U_md_law_123 → Option (U_md_law_123 ⊕ T_md_law) := fun s => b_md_law_123 b71 b72 b73 b74 b75 b76 b77 c64_6 c64_7 c64_8 c64_9 c64_10 c64_11 c64_12 c64_13 c64_14 c64_15 s.1 s.2.1 s.2.2.1 s.2.2.2.1 s.2.2.2.2
noncomputable def l_md_law_123 (b71 : Nat → Int32) (b72 : Nat → Int32) (b73 : Nat → Int32) (b74 : Nat → Int32) (b75 : Nat → Int32) (b76 : Nat → Int32) (b77 : Nat → Int32) (c64_6 : Int32) (c64_7 : Int32) (c64_8 : Int32) (c64_9 : Int32) (c64_10 : Int32) (c64_11 : Int32) (c64_12 : Int32) (c64_13 : Int32) (c64_14 : Int32) (c64_15 : Int32) (l3 : Int32) (b78 : Nat → Int32) (b79 : Nat → Int32) (b80 : Nat → Int32) (b81 : Nat → Int32) : Option T_md_law := zlp (f_md_law_123 b71 b72 b73 b74 b75 b76 b77 c64_6 c64_7 c64_8 c64_9 c64_10 c64_11 c64_12 c64_13 c64_14 c64_15) (l3, b78, b79, b80, b81)
noncomputable def b_md_law_95 (b71 : Nat → Int32) (b72 : Nat → Int32) (b73 : Nat → Int32) (b74 : Nat → Int32) (b75 : Nat → Int32) (b76 : Nat → Int32) (b78 : Nat → Int32) (b79 : Nat → Int32) (b80 : Nat → Int32) (b81 : Nat → Int32) (c64_6 : Int32) (c64_7 : Int32) (c64_8 : Int32) (c64_9 : Int32) (c64_10 : Int32) (c64_11 : Int32) (c64_12 : Int32) (c64_13 : Int32) (c64_14 : Int32) (c64_15 : Int32) (l3 : Int32) (b77 : Nat → Int32) : Option (U_md_law_95 ⊕ T_md_law) :=
  bif decide (c64_12 ≤ l3) then
   zbd (l_md_law_123 b71 b72 b73 b74 b75 b76 b77 c64_6 c64_7 c64_8 c64_9 c64_10 c64_11 c64_12 c64_13 c64_14 c64_15 0 b78 b79 b80 b81) (fun k => some (.inr k))
  else
   zg (zin l3 260) (
   zg (zin l3 260) (
   some (.inl (l3 + 1, (zup b77 (l3.toNatClampNeg) (b71 (l3.toNatClampNeg)))))))
noncomputable def f_md_law_95 (b71 : Nat → Int32) (b72 : Nat → Int32) (b73 : Nat → Int32) (b74 : Nat → Int32) (b75 : Nat → Int32) (b76 : Nat → Int32) (b78 : Nat → Int32) (b79 : Nat → Int32) (b80 : Nat → Int32) (b81 : Nat → Int32) (c64_6 : Int32) (c64_7 : Int32) (c64_8 : Int32) (c64_9 : Int32) (c64_10 : Int32) (c64_11 : Int32) (c64_12 : Int32) (c64_13 : Int32) (c64_14 : Int32) (c64_15 : Int32) : U_md_law_95 → Option (U_md_law_95 ⊕ T_md_law) := fun s => b_md_law_95 b71 b72 b73 b74 b75 b76 b78 b79 b80 b81 c64_6 c64_7 c64_8 c64_9 c64_10 c64_11 c64_12 c64_13 c64_14 c64_15 s.1 s.2
noncomputable def l_md_law_95 (b71 : Nat → Int32) (b72 : Nat → Int32) (b73 : Nat → Int32) (b74 : Nat → Int32) (b75 : Nat → Int32) (b76 : Nat → Int32) (b78 : Nat → Int32) (b79 : Nat → Int32) (b80 : Nat → Int32) (b81 : Nat → Int32) (c64_6 : Int32) (c64_7 : Int32) (c64_8 : Int32) (c64_9 : Int32) (c64_10 : Int32) (c64_11 : Int32) (c64_12 : Int32) (c64_13 : Int32) (c64_14 : Int32) (c64_15 : Int32) (l3 : Int32) (b77 : Nat → Int32) : Option T_md_law := zlp (f_md_law_95 b71 b72 b73 b74 b75 b76 b78 b79 b80 b81 c64_6 c64_7 c64_8 c64_9 c64_10 c64_11 c64_12 c64_13 c64_14 c64_15) (l3, b77)
noncomputable def b_md_law_31 (a70 : Nat → Int32) (b77 : Nat → Int32) (b78 : Nat → Int32) (b79 : Nat → Int32) (b80 : Nat → Int32) (b81 : Nat → Int32) (c64_8 : Int32) (c64_15 : Int32) (l2 : Int32) (b71 : Nat → Int32) (b72 : Nat → Int32) (b73 : Nat → Int32) (b74 : Nat → Int32) (b75 : Nat → Int32) (b76 : Nat → Int32) (c64_7 : Int32) (c64_9 : Int32) (c64_10 : Int32) (c64_11 : Int32) (c64_12 : Int32) (c64_13 : Int32) (c64_14 : Int32) : Option (U_md_law_31 ⊕ T_md_law) :=
  bif decide (l2 = 0) then
   bif !decide (l2 = 0) then
    zbd (l_md_law_95 b71 b72 b73 b74 b75 b76 b78 b79 b80 b81 0 c64_7 c64_8 c64_9 c64_10 c64_11 c64_12 c64_13 c64_14 c64_14 0 b77) (fun k => some (.inr k))
   else
    some (.inr (c64_9, b71, b72, b73, b74, b75, b76, b77, b78, b79, b80, b81, 0, c64_7, c64_8, c64_9, c64_10, c64_11, c64_12, c64_13, c64_14, c64_15))
  else
   bif decide (c64_8 ≤ c64_7) then
    bif !decide (l2 = 0) then
     zbd (l_md_law_95 b71 b72 b73 b74 b75 b76 b78 b79 b80 b81 0 c64_7 c64_8 c64_9 c64_10 c64_11 c64_12 c64_13 c64_14 c64_14 0 b77) (fun k => some (.inr k))
    else
     some (.inr (c64_9, b71, b72, b73, b74, b75, b76, b77, b78, b79, b80, b81, 0, c64_7, c64_8, c64_9, c64_10, c64_11, c64_12, c64_13, c64_14, c64_15))
   else
    zg (g_md_takes 59 c64_8 c64_7 a70 c64_9) (
    zl (w_md_takes 59 c64_8 c64_7 a70 c64_9) (fun v7 =>
    zl (f0_md_takes 59 c64_8 c64_7 a70 c64_9) (fun v8 =>
    zl (f1_md_takes 59 c64_8 c64_7 a70 c64_9) (fun v9 =>
    bif decide (v7 = 0) then
     some (.inl (0, b71, b72, b73, b74, b75, b76, v8, v9, c64_10, c64_11, c64_12, c64_13, c64_14))
    else
     zbd (q_md_readsRule a70 b71 b72 b73 b74 b75 b76 v8 c64_8 v9 c64_10 c64_11 c64_12 c64_13 c64_14) (fun v10 =>
     bif decide ((v10.1) = 0) then
      some (.inl (0, ((v10.2.1)), ((v10.2.2.1)), ((v10.2.2.2.1)), ((v10.2.2.2.2.1)), ((v10.2.2.2.2.2.1)), ((v10.2.2.2.2.2.2.1)), (v10.2.2.2.2.2.2.2.1), (v10.2.2.2.2.2.2.2.2.1), (v10.2.2.2.2.2.2.2.2.2.1), (v10.2.2.2.2.2.2.2.2.2.2.1), (v10.2.2.2.2.2.2.2.2.2.2.2.1), (v10.2.2.2.2.2.2.2.2.2.2.2.2.1), (v10.2.2.2.2.2.2.2.2.2.2.2.2.2)))
     else
      some (.inl (1, ((v10.2.1)), ((v10.2.2.1)), ((v10.2.2.2.1)), ((v10.2.2.2.2.1)), ((v10.2.2.2.2.2.1)), ((v10.2.2.2.2.2.2.1)), (v10.2.2.2.2.2.2.2.1), (v10.2.2.2.2.2.2.2.2.1), (v10.2.2.2.2.2.2.2.2.2.1), (v10.2.2.2.2.2.2.2.2.2.2.1), (v10.2.2.2.2.2.2.2.2.2.2.2.1), (v10.2.2.2.2.2.2.2.2.2.2.2.2.1), (v10.2.2.2.2.2.2.2.2.2.2.2.2.2))))))))
noncomputable def f_md_law_31 (a70 : Nat → Int32) (b77 : Nat → Int32) (b78 : Nat → Int32) (b79 : Nat → Int32) (b80 : Nat → Int32) (b81 : Nat → Int32) (c64_8 : Int32) (c64_15 : Int32) : U_md_law_31 → Option (U_md_law_31 ⊕ T_md_law) := fun s => b_md_law_31 a70 b77 b78 b79 b80 b81 c64_8 c64_15 s.1 s.2.1 s.2.2.1 s.2.2.2.1 s.2.2.2.2.1 s.2.2.2.2.2.1 s.2.2.2.2.2.2.1 s.2.2.2.2.2.2.2.1 s.2.2.2.2.2.2.2.2.1 s.2.2.2.2.2.2.2.2.2.1 s.2.2.2.2.2.2.2.2.2.2.1 s.2.2.2.2.2.2.2.2.2.2.2.1 s.2.2.2.2.2.2.2.2.2.2.2.2.1 s.2.2.2.2.2.2.2.2.2.2.2.2.2
noncomputable def l_md_law_31 (a70 : Nat → Int32) (b77 : Nat → Int32) (b78 : Nat → Int32) (b79 : Nat → Int32) (b80 : Nat → Int32) (b81 : Nat → Int32) (c64_8 : Int32) (c64_15 : Int32) (l2 : Int32) (b71 : Nat → Int32) (b72 : Nat → Int32) (b73 : Nat → Int32) (b74 : Nat → Int32) (b75 : Nat → Int32) (b76 : Nat → Int32) (c64_7 : Int32) (c64_9 : Int32) (c64_10 : Int32) (c64_11 : Int32) (c64_12 : Int32) (c64_13 : Int32) (c64_14 : Int32) : Option T_md_law := zlp (f_md_law_31 a70 b77 b78 b79 b80 b81 c64_8 c64_15) (l2, b71, b72, b73, b74, b75, b76, c64_7, c64_9, c64_10, c64_11, c64_12, c64_13, c64_14)
noncomputable def q_md_law (x : Int32) (a70 : Nat → Int32) (a71 : Nat → Int32) (a72 : Nat → Int32) (a73 : Nat → Int32) (a74 : Nat → Int32) (a75 : Nat → Int32) (a76 : Nat → Int32) (a77 : Nat → Int32) (a78 : Nat → Int32) (a79 : Nat → Int32) (a80 : Nat → Int32) (a81 : Nat → Int32) (f64_6 : Int32) (f64_7 : Int32) (f64_8 : Int32) (f64_9 : Int32) (f64_10 : Int32) (f64_11 : Int32) (f64_12 : Int32) (f64_13 : Int32) (f64_14 : Int32) (f64_15 : Int32) : Option T_md_law :=
  zl (w_md_in x 1 240) (fun v1 =>
  bif decide (v1 = 0) then
   some ((-1), a71, a72, a73, a74, a75, a76, a77, a78, a79, a80, a81, f64_6, f64_7, f64_8, f64_9, f64_10, f64_11, f64_12, f64_13, f64_14, f64_15)
  else
   bif decide (x ≤ f64_6) then
    zl (f0_md_beginsText x) (fun v2 =>
    zl (f1_md_beginsText x) (fun v3 =>
    zl (f2_md_beginsText x) (fun v4 =>
    zl (f3_md_beginsText x) (fun v5 =>
    zbd (q_md_readsRule a70 a71 a72 a73 a74 a75 a76 v2 v3 (f64_9) (f64_10) (f64_11) v4 (f64_13) v5) (fun v6 =>
    l_md_law_31 a70 a77 a78 a79 a80 a81 v3 (f64_15) ((v6.1)) ((v6.2.1)) ((v6.2.2.1)) ((v6.2.2.2.1)) ((v6.2.2.2.2.1)) ((v6.2.2.2.2.2.1)) ((v6.2.2.2.2.2.2.1)) ((v6.2.2.2.2.2.2.2.1)) ((v6.2.2.2.2.2.2.2.2.1)) ((v6.2.2.2.2.2.2.2.2.2.1)) ((v6.2.2.2.2.2.2.2.2.2.2.1)) ((v6.2.2.2.2.2.2.2.2.2.2.2.1)) ((v6.2.2.2.2.2.2.2.2.2.2.2.2.1)) ((v6.2.2.2.2.2.2.2.2.2.2.2.2.2)))))))
   else
    some ((-1), a71, a72, a73, a74, a75, a76, a77, a78, a79, a80, a81, f64_6, f64_7, f64_8, f64_9, f64_10, f64_11, f64_12, f64_13, f64_14, f64_15))
def P_md_law (Q : Int32 → (Nat → Int32) → (Nat → Int32) → (Nat → Int32) → (Nat → Int32) → (Nat → Int32) → (Nat → Int32) → (Nat → Int32) → (Nat → Int32) → (Nat → Int32) → (Nat → Int32) → (Nat → Int32) → (Nat → Int32) → Int32 → Int32 → Int32 → Int32 → Int32 → Int32 → Int32 → Int32 → Int32 → Int32 → Option (Int32 × (Nat → Int32) × (Nat → Int32) × (Nat → Int32) × (Nat → Int32) × (Nat → Int32) × (Nat → Int32) × (Nat → Int32) × (Nat → Int32) × (Nat → Int32) × (Nat → Int32) × (Nat → Int32) × Int32 × Int32 × Int32 × Int32 × Int32 × Int32 × Int32 × Int32 × Int32 × Int32)) : zSp := fun as g => match as with
  | [.ref a, .int x] => bif Nat.beq a 64 then zpe (Q x (g.1 70) (g.1 71) (g.1 72) (g.1 73) (g.1 74) (g.1 75) (g.1 76) (g.1 77) (g.1 78) (g.1 79) (g.1 80) (g.1 81) (g.2.1 64 6) (g.2.1 64 7) (g.2.1 64 8) (g.2.1 64 9) (g.2.1 64 10) (g.2.1 64 11) (g.2.1 64 12) (g.2.1 64 13) (g.2.1 64 14) (g.2.1 64 15)) (fun t => (some (.int (t.1)), ((zua (zua (zua (zua (zua (zua (zua (zua (zua (zua (zua g.1 71 t.2.1) 72 t.2.2.1) 73 t.2.2.2.1) 74 t.2.2.2.2.1) 75 t.2.2.2.2.2.1) 76 t.2.2.2.2.2.2.1) 77 t.2.2.2.2.2.2.2.1) 78 t.2.2.2.2.2.2.2.2.1) 79 t.2.2.2.2.2.2.2.2.2.1) 80 t.2.2.2.2.2.2.2.2.2.2.1) 81 t.2.2.2.2.2.2.2.2.2.2.2.1), (zuf (zuf (zuf (zuf (zuf (zuf (zuf (zuf (zuf (zuf g.2.1 64 6 t.2.2.2.2.2.2.2.2.2.2.2.2.1) 64 7 t.2.2.2.2.2.2.2.2.2.2.2.2.2.1) 64 8 t.2.2.2.2.2.2.2.2.2.2.2.2.2.2.1) 64 9 t.2.2.2.2.2.2.2.2.2.2.2.2.2.2.2.1) 64 10 t.2.2.2.2.2.2.2.2.2.2.2.2.2.2.2.2.1) 64 11 t.2.2.2.2.2.2.2.2.2.2.2.2.2.2.2.2.2.1) 64 12 t.2.2.2.2.2.2.2.2.2.2.2.2.2.2.2.2.2.2.1) 64 13 t.2.2.2.2.2.2.2.2.2.2.2.2.2.2.2.2.2.2.2.1) 64 14 t.2.2.2.2.2.2.2.2.2.2.2.2.2.2.2.2.2.2.2.2.1) 64 15 t.2.2.2.2.2.2.2.2.2.2.2.2.2.2.2.2.2.2.2.2.2), g.2.2))) else none
  | _ => none
noncomputable abbrev S_md_law : zSp := P_md_law q_md_law
theorem hF12_md_law (F : Nat → Nat → Int32) (w0 w1 w2 w3 w4 w5 w6 w7 w8 w9 w10 : Int32) : (zuf (zuf (zuf (zuf (zuf (zuf (zuf (zuf (zuf (zuf (zuf F 64 7 w0) 64 8 w1) 64 12 w2) 64 14 w3) 64 7 w4) 64 9 w5) 64 10 w6) 64 11 w7) 64 12 w8) 64 13 w9) 64 14 w10) = (zuf (zuf (zuf (zuf (zuf (zuf (zuf (zuf (zuf (zuf F 64 6 (F 64 6)) 64 7 w4) 64 8 w1) 64 9 w5) 64 10 w6) 64 11 w7) 64 12 w8) 64 13 w9) 64 14 w10) 64 15 (F 64 15)) := zufk_ix F [((64, 7), w0), ((64, 8), w1), ((64, 12), w2), ((64, 14), w3), ((64, 7), w4), ((64, 9), w5), ((64, 10), w6), ((64, 11), w7), ((64, 12), w8), ((64, 13), w9), ((64, 14), w10)] [((64, 6), none), ((64, 7), some 4), ((64, 8), some 1), ((64, 9), some 5), ((64, 10), some 6), ((64, 11), some 7), ((64, 12), some 8), ((64, 13), some 9), ((64, 14), some 10), ((64, 15), none)] rfl
theorem hA11_md_law (F : Nat → Nat → Int32) (w0 w1 w2 w3 w4 w5 : Nat → Int32) : (zua (zua (zua (zua (zua (zua F 71 w0) 72 w1) 73 w2) 74 w3) 75 w4) 76 w5) = (zua (zua (zua (zua (zua (zua (zua (zua (zua (zua (zua F 71 w0) 72 w1) 73 w2) 74 w3) 75 w4) 76 w5) 77 (F 77)) 78 (F 78)) 79 (F 79)) 80 (F 80)) 81 (F 81)) := zuak_ix F [(71, w0), (72, w1), (73, w2), (74, w3), (75, w4), (76, w5)] [(71, some 0), (72, some 1), (73, some 2), (74, some 3), (75, some 4), (76, some 5), (77, none), (78, none), (79, none), (80, none), (81, none)] rfl
theorem hF10_md_law (F : Nat → Nat → Int32) : F = (zuf (zuf (zuf (zuf (zuf (zuf (zuf (zuf (zuf (zuf F 64 6 (F 64 6)) 64 7 (F 64 7)) 64 8 (F 64 8)) 64 9 (F 64 9)) 64 10 (F 64 10)) 64 11 (F 64 11)) 64 12 (F 64 12)) 64 13 (F 64 13)) 64 14 (F 64 14)) 64 15 (F 64 15)) := zufk_ix F [] [((64, 6), none), ((64, 7), none), ((64, 8), none), ((64, 9), none), ((64, 10), none), ((64, 11), none), ((64, 12), none), ((64, 13), none), ((64, 14), none), ((64, 15), none)] rfl
theorem hA9_md_law (F : Nat → Nat → Int32) : F = (zua (zua (zua (zua (zua (zua (zua (zua (zua (zua (zua F 71 (F 71)) 72 (F 72)) 73 (F 73)) 74 (F 74)) 75 (F 75)) 76 (F 76)) 77 (F 77)) 78 (F 78)) 79 (F 79)) 80 (F 80)) 81 (F 81)) := zuak_ix F [] [(71, none), (72, none), (73, none), (74, none), (75, none), (76, none), (77, none), (78, none), (79, none), (80, none), (81, none)] rfl
theorem hF8_md_law (F : Nat → Nat → Int32) (w0 w1 w2 w3 w4 w5 w6 w7 w8 w9 w10 w11 w12 w13 w14 w15 w16 w17 w18 : Int32) : (zuf (zuf (zuf (zuf (zuf (zuf (zuf (zuf (zuf (zuf (zuf (zuf (zuf (zuf (zuf (zuf (zuf (zuf (zuf F 64 6 w0) 64 7 w1) 64 8 w2) 64 9 w3) 64 10 w4) 64 11 w5) 64 12 w6) 64 13 w7) 64 14 w8) 64 15 w9) 64 7 w10) 64 9 w11) 64 7 w12) 64 9 w13) 64 10 w14) 64 11 w15) 64 12 w16) 64 13 w17) 64 14 w18) = (zuf (zuf (zuf (zuf (zuf (zuf (zuf (zuf (zuf (zuf F 64 6 w0) 64 7 w12) 64 8 w2) 64 9 w13) 64 10 w14) 64 11 w15) 64 12 w16) 64 13 w17) 64 14 w18) 64 15 w9) := zufk_ix F [((64, 6), w0), ((64, 7), w1), ((64, 8), w2), ((64, 9), w3), ((64, 10), w4), ((64, 11), w5), ((64, 12), w6), ((64, 13), w7), ((64, 14), w8), ((64, 15), w9), ((64, 7), w10), ((64, 9), w11), ((64, 7), w12), ((64, 9), w13), ((64, 10), w14), ((64, 11), w15), ((64, 12), w16), ((64, 13), w17), ((64, 14), w18)] [((64, 6), some 0), ((64, 7), some 12), ((64, 8), some 2), ((64, 9), some 13), ((64, 10), some 14), ((64, 11), some 15), ((64, 12), some 16), ((64, 13), some 17), ((64, 14), some 18), ((64, 15), some 9)] rfl
theorem hA7_md_law (F : Nat → Nat → Int32) (w0 w1 w2 w3 w4 w5 w6 w7 w8 w9 w10 w11 w12 w13 w14 w15 w16 : Nat → Int32) : (zua (zua (zua (zua (zua (zua (zua (zua (zua (zua (zua (zua (zua (zua (zua (zua (zua F 71 w0) 72 w1) 73 w2) 74 w3) 75 w4) 76 w5) 77 w6) 78 w7) 79 w8) 80 w9) 81 w10) 71 w11) 72 w12) 73 w13) 74 w14) 75 w15) 76 w16) = (zua (zua (zua (zua (zua (zua (zua (zua (zua (zua (zua F 71 w11) 72 w12) 73 w13) 74 w14) 75 w15) 76 w16) 77 w6) 78 w7) 79 w8) 80 w9) 81 w10) := zuak_ix F [(71, w0), (72, w1), (73, w2), (74, w3), (75, w4), (76, w5), (77, w6), (78, w7), (79, w8), (80, w9), (81, w10), (71, w11), (72, w12), (73, w13), (74, w14), (75, w15), (76, w16)] [(71, some 11), (72, some 12), (73, some 13), (74, some 14), (75, some 15), (76, some 16), (77, some 6), (78, some 7), (79, some 8), (80, some 9), (81, some 10)] rfl
theorem hF6_md_law (F : Nat → Nat → Int32) (w0 w1 w2 w3 w4 w5 w6 w7 w8 w9 w10 w11 : Int32) : (zuf (zuf (zuf (zuf (zuf (zuf (zuf (zuf (zuf (zuf (zuf (zuf F 64 6 w0) 64 7 w1) 64 8 w2) 64 9 w3) 64 10 w4) 64 11 w5) 64 12 w6) 64 13 w7) 64 14 w8) 64 15 w9) 64 7 w10) 64 9 w11) = (zuf (zuf (zuf (zuf (zuf (zuf (zuf (zuf (zuf (zuf F 64 6 w0) 64 7 w10) 64 8 w2) 64 9 w11) 64 10 w4) 64 11 w5) 64 12 w6) 64 13 w7) 64 14 w8) 64 15 w9) := zufk_ix F [((64, 6), w0), ((64, 7), w1), ((64, 8), w2), ((64, 9), w3), ((64, 10), w4), ((64, 11), w5), ((64, 12), w6), ((64, 13), w7), ((64, 14), w8), ((64, 15), w9), ((64, 7), w10), ((64, 9), w11)] [((64, 6), some 0), ((64, 7), some 10), ((64, 8), some 2), ((64, 9), some 11), ((64, 10), some 4), ((64, 11), some 5), ((64, 12), some 6), ((64, 13), some 7), ((64, 14), some 8), ((64, 15), some 9)] rfl
theorem hF5_md_law (F : Nat → Nat → Int32) (w0 w1 w2 w3 w4 w5 w6 w7 w8 w9 w10 : Int32) : (zuf (zuf (zuf (zuf (zuf (zuf (zuf (zuf (zuf (zuf (zuf F 64 6 w0) 64 7 w1) 64 8 w2) 64 9 w3) 64 10 w4) 64 11 w5) 64 12 w6) 64 13 w7) 64 14 w8) 64 15 w9) 64 6 w10) = (zuf (zuf (zuf (zuf (zuf (zuf (zuf (zuf (zuf (zuf F 64 6 w10) 64 7 w1) 64 8 w2) 64 9 w3) 64 10 w4) 64 11 w5) 64 12 w6) 64 13 w7) 64 14 w8) 64 15 w9) := zufk_ix F [((64, 6), w0), ((64, 7), w1), ((64, 8), w2), ((64, 9), w3), ((64, 10), w4), ((64, 11), w5), ((64, 12), w6), ((64, 13), w7), ((64, 14), w8), ((64, 15), w9), ((64, 6), w10)] [((64, 6), some 10), ((64, 7), some 1), ((64, 8), some 2), ((64, 9), some 3), ((64, 10), some 4), ((64, 11), some 5), ((64, 12), some 6), ((64, 13), some 7), ((64, 14), some 8), ((64, 15), some 9)] rfl
theorem hF4_md_law (F : Nat → Nat → Int32) (w0 w1 w2 w3 w4 w5 w6 w7 w8 w9 w10 w11 : Int32) : (zuf (zuf (zuf (zuf (zuf (zuf (zuf (zuf (zuf (zuf (zuf (zuf F 64 6 w0) 64 7 w1) 64 8 w2) 64 9 w3) 64 10 w4) 64 11 w5) 64 12 w6) 64 13 w7) 64 14 w8) 64 15 w9) 64 6 w10) 64 15 w11) = (zuf (zuf (zuf (zuf (zuf (zuf (zuf (zuf (zuf (zuf F 64 6 w10) 64 7 w1) 64 8 w2) 64 9 w3) 64 10 w4) 64 11 w5) 64 12 w6) 64 13 w7) 64 14 w8) 64 15 w11) := zufk_ix F [((64, 6), w0), ((64, 7), w1), ((64, 8), w2), ((64, 9), w3), ((64, 10), w4), ((64, 11), w5), ((64, 12), w6), ((64, 13), w7), ((64, 14), w8), ((64, 15), w9), ((64, 6), w10), ((64, 15), w11)] [((64, 6), some 10), ((64, 7), some 1), ((64, 8), some 2), ((64, 9), some 3), ((64, 10), some 4), ((64, 11), some 5), ((64, 12), some 6), ((64, 13), some 7), ((64, 14), some 8), ((64, 15), some 11)] rfl
theorem hA3_md_law (F : Nat → Nat → Int32) (w0 w1 w2 w3 w4 w5 w6 w7 w8 w9 w10 w11 : Nat → Int32) : (zua (zua (zua (zua (zua (zua (zua (zua (zua (zua (zua (zua F 71 w0) 72 w1) 73 w2) 74 w3) 75 w4) 76 w5) 77 w6) 78 w7) 79 w8) 80 w9) 81 w10) 77 w11) = (zua (zua (zua (zua (zua (zua (zua (zua (zua (zua (zua F 71 w0) 72 w1) 73 w2) 74 w3) 75 w4) 76 w5) 77 w11) 78 w7) 79 w8) 80 w9) 81 w10) := zuak_ix F [(71, w0), (72, w1), (73, w2), (74, w3), (75, w4), (76, w5), (77, w6), (78, w7), (79, w8), (80, w9), (81, w10), (77, w11)] [(71, some 0), (72, some 1), (73, some 2), (74, some 3), (75, some 4), (76, some 5), (77, some 11), (78, some 7), (79, some 8), (80, some 9), (81, some 10)] rfl
theorem hA2_md_law (F : Nat → Nat → Int32) (w0 w1 w2 w3 w4 w5 w6 w7 w8 w9 w10 w11 w12 w13 w14 : Nat → Int32) : (zua (zua (zua (zua (zua (zua (zua (zua (zua (zua (zua (zua (zua (zua (zua F 71 w0) 72 w1) 73 w2) 74 w3) 75 w4) 76 w5) 77 w6) 78 w7) 79 w8) 80 w9) 81 w10) 78 w11) 79 w12) 80 w13) 81 w14) = (zua (zua (zua (zua (zua (zua (zua (zua (zua (zua (zua F 71 w0) 72 w1) 73 w2) 74 w3) 75 w4) 76 w5) 77 w6) 78 w11) 79 w12) 80 w13) 81 w14) := zuak_ix F [(71, w0), (72, w1), (73, w2), (74, w3), (75, w4), (76, w5), (77, w6), (78, w7), (79, w8), (80, w9), (81, w10), (78, w11), (79, w12), (80, w13), (81, w14)] [(71, some 0), (72, some 1), (73, some 2), (74, some 3), (75, some 4), (76, some 5), (77, some 6), (78, some 11), (79, some 12), (80, some 13), (81, some 14)] rfl
theorem hF1_md_law (F : Nat → Nat → Int32) (w0 w1 w2 w3 w4 w5 w6 w7 w8 w9 : Int32) : (zuf (zuf (zuf (zuf (zuf (zuf (zuf (zuf (zuf (zuf F 64 6 w0) 64 7 w1) 64 8 w2) 64 9 w3) 64 10 w4) 64 11 w5) 64 12 w6) 64 13 w7) 64 14 w8) 64 15 w9) = (zuf (zuf (zuf (zuf (zuf (zuf (zuf (zuf (zuf (zuf F 64 6 w0) 64 7 w1) 64 8 w2) 64 9 w3) 64 10 w4) 64 11 w5) 64 12 w6) 64 13 w7) 64 14 w8) 64 15 w9) := zufk_ix F [((64, 6), w0), ((64, 7), w1), ((64, 8), w2), ((64, 9), w3), ((64, 10), w4), ((64, 11), w5), ((64, 12), w6), ((64, 13), w7), ((64, 14), w8), ((64, 15), w9)] [((64, 6), some 0), ((64, 7), some 1), ((64, 8), some 2), ((64, 9), some 3), ((64, 10), some 4), ((64, 11), some 5), ((64, 12), some 6), ((64, 13), some 7), ((64, 14), some 8), ((64, 15), some 9)] rfl
theorem hA0_md_law (F : Nat → Nat → Int32) (w0 w1 w2 w3 w4 w5 w6 w7 w8 w9 w10 : Nat → Int32) : (zua (zua (zua (zua (zua (zua (zua (zua (zua (zua (zua F 71 w0) 72 w1) 73 w2) 74 w3) 75 w4) 76 w5) 77 w6) 78 w7) 79 w8) 80 w9) 81 w10) = (zua (zua (zua (zua (zua (zua (zua (zua (zua (zua (zua F 71 w0) 72 w1) 73 w2) 74 w3) 75 w4) 76 w5) 77 w6) 78 w7) 79 w8) 80 w9) 81 w10) := zuak_ix F [(71, w0), (72, w1), (73, w2), (74, w3), (75, w4), (76, w5), (77, w6), (78, w7), (79, w8), (80, w9), (81, w10)] [(71, some 0), (72, some 1), (73, some 2), (74, some 3), (75, some 4), (76, some 5), (77, some 6), (78, some 7), (79, some 8), (80, some 9), (81, some 10)] rfl
def O_md_law (ar fi : Nat → Nat → Int32) (m1 : Nat) (m2 : Nat) (m3 : Nat) (m4 : Nat) (m5 : Nat) (t : T_md_law) : zO2 := match t with
  | (t0, t1, t2, t3, t4, t5, t6, t7, t8, t9, t10, t11, t12, t13, t14, t15, t16, t17, t18, t19, t20, t21) => (some (.int (t0)), ((zua (zua (zua (zua (zua (zua (zua (zua (zua (zua (zua ar 71 t1) 72 t2) 73 t3) 74 t4) 75 t5) 76 t6) 77 t7) 78 t8) 79 t9) 80 t10) 81 t11), (zuf (zuf (zuf (zuf (zuf (zuf (zuf (zuf (zuf (zuf fi 64 6 t12) 64 7 t13) 64 8 t14) 64 9 t15) 64 10 t16) 64 11 t17) 64 12 t18) 64 13 t19) 64 14 t20) 64 15 t21), (m1, m2, m3, m4, m5)))
def M_md_law_123 (X : Nat × (Nat → Int32)) (E : zTE) (ar fi : Nat → Nat → Int32) (m1 : Nat) (m2 : Nat) (m3 : Nat) (m4 : Nat) (m5 : Nat) (x : Int32) (l2 : Int32) (b71 : Nat → Int32) (b72 : Nat → Int32) (b73 : Nat → Int32) (b74 : Nat → Int32) (b75 : Nat → Int32) (b76 : Nat → Int32) (b77 : Nat → Int32) (c64_6 : Int32) (c64_7 : Int32) (c64_8 : Int32) (c64_9 : Int32) (c64_10 : Int32) (c64_11 : Int32) (c64_12 : Int32) (c64_13 : Int32) (c64_14 : Int32) (c64_15 : Int32) (o : zO2) (s : U_md_law_123) : Prop := match s with
  | (l3, b78, b79, b80, b81) => zR2 X zFT E zc_179 123 [.ref 64, .int x, .int l2, .int l3] [] ((zua (zua (zua (zua (zua (zua (zua (zua (zua (zua (zua ar 71 b71) 72 b72) 73 b73) 74 b74) 75 b75) 76 b76) 77 b77) 78 b78) 79 b79) 80 b80) 81 b81), (zuf (zuf (zuf (zuf (zuf (zuf (zuf (zuf (zuf (zuf fi 64 6 c64_6) 64 7 c64_7) 64 8 c64_8) 64 9 c64_9) 64 10 c64_10) 64 11 c64_11) 64 12 c64_12) 64 13 c64_13) 64 14 c64_14) 64 15 c64_15), (m1, m2, m3, m4, m5)) o
def M_md_law_95 (X : Nat × (Nat → Int32)) (E : zTE) (ar fi : Nat → Nat → Int32) (m1 : Nat) (m2 : Nat) (m3 : Nat) (m4 : Nat) (m5 : Nat) (x : Int32) (l2 : Int32) (b71 : Nat → Int32) (b72 : Nat → Int32) (b73 : Nat → Int32) (b74 : Nat → Int32) (b75 : Nat → Int32) (b76 : Nat → Int32) (b78 : Nat → Int32) (b79 : Nat → Int32) (b80 : Nat → Int32) (b81 : Nat → Int32) (c64_6 : Int32) (c64_7 : Int32) (c64_8 : Int32) (c64_9 : Int32) (c64_10 : Int32) (c64_11 : Int32) (c64_12 : Int32) (c64_13 : Int32) (c64_14 : Int32) (c64_15 : Int32) (o : zO2) (s : U_md_law_95) : Prop := match s with
  | (l3, b77) => zR2 X zFT E zc_179 95 [.ref 64, .int x, .int l2, .int l3] [] ((zua (zua (zua (zua (zua (zua (zua (zua (zua (zua (zua ar 71 b71) 72 b72) 73 b73) 74 b74) 75 b75) 76 b76) 77 b77) 78 b78) 79 b79) 80 b80) 81 b81), (zuf (zuf (zuf (zuf (zuf (zuf (zuf (zuf (zuf (zuf fi 64 6 c64_6) 64 7 c64_7) 64 8 c64_8) 64 9 c64_9) 64 10 c64_10) 64 11 c64_11) 64 12 c64_12) 64 13 c64_13) 64 14 c64_14) 64 15 c64_15), (m1, m2, m3, m4, m5)) o
def M_md_law_31 (X : Nat × (Nat → Int32)) (E : zTE) (ar fi : Nat → Nat → Int32) (m1 : Nat) (m2 : Nat) (m3 : Nat) (m4 : Nat) (m5 : Nat) (x : Int32) (b77 : Nat → Int32) (b78 : Nat → Int32) (b79 : Nat → Int32) (b80 : Nat → Int32) (b81 : Nat → Int32) (c64_6 : Int32) (c64_8 : Int32) (c64_15 : Int32) (o : zO2) (s : U_md_law_31) : Prop := match s with
  | (l2, b71, b72, b73, b74, b75, b76, c64_7, c64_9, c64_10, c64_11, c64_12, c64_13, c64_14) => zR2 X zFT E zc_179 31 [.ref 64, .int x, .int l2] [] ((zua (zua (zua (zua (zua (zua (zua (zua (zua (zua (zua ar 71 b71) 72 b72) 73 b73) 74 b74) 75 b75) 76 b76) 77 b77) 78 b78) 79 b79) 80 b80) 81 b81), (zuf (zuf (zuf (zuf (zuf (zuf (zuf (zuf (zuf (zuf fi 64 6 c64_6) 64 7 c64_7) 64 8 c64_8) 64 9 c64_9) 64 10 c64_10) 64 11 c64_11) 64 12 c64_12) 64 13 c64_13) 64 14 c64_14) 64 15 c64_15), (m1, m2, m3, m4, m5)) o
set_option maxRecDepth 1000000 in
theorem t123_md_law {X : Nat × (Nat → Int32)} {ar fi : Nat → Nat → Int32} {m1 m2 m3 m4 m5 : Nat} {x : Int32} {l2 : Int32} {l3 : Int32} {b71 : Nat → Int32} {b72 : Nat → Int32} {b73 : Nat → Int32} {b74 : Nat → Int32} {b75 : Nat → Int32} {b76 : Nat → Int32} {b77 : Nat → Int32} {b78 : Nat → Int32} {b79 : Nat → Int32} {b80 : Nat → Int32} {b81 : Nat → Int32} {c64_6 : Int32} {c64_7 : Int32} {c64_8 : Int32} {c64_9 : Int32} {c64_10 : Int32} {c64_11 : Int32} {c64_12 : Int32} {c64_13 : Int32} {c64_14 : Int32} {c64_15 : Int32} {W_md_in : Int32 → Int32 → Int32 → Int32} {F0_md_beginsText : Int32 → Int32} {F1_md_beginsText : Int32 → Int32} {F2_md_beginsText : Int32 → Int32} {F3_md_beginsText : Int32 → Int32} {Q_md_readsRule : (Nat → Int32) → (Nat → Int32) → (Nat → Int32) → (Nat → Int32) → (Nat → Int32) → (Nat → Int32) → (Nat → Int32) → Int32 → Int32 → Int32 → Int32 → Int32 → Int32 → Int32 → Int32 → Option (Int32 × (Nat → Int32) × (Nat → Int32) × (Nat → Int32) × (Nat → Int32) × (Nat → Int32) × (Nat → Int32) × Int32 × Int32 × Int32 × Int32 × Int32 × Int32 × Int32)} {G_md_takes : Int32 → Int32 → Int32 → (Nat → Int32) → Int32 → Bool} {W_md_takes : Int32 → Int32 → Int32 → (Nat → Int32) → Int32 → Int32} {F0_md_takes : Int32 → Int32 → Int32 → (Nat → Int32) → Int32 → Int32} {F1_md_takes : Int32 → Int32 → Int32 → (Nat → Int32) → Int32 → Int32} : zseg X zFT (zEx 143 (P_md_in W_md_in) (zEx 178 (P_md_beginsText F0_md_beginsText F1_md_beginsText F2_md_beginsText F3_md_beginsText) (zEx 177 (P_md_readsRule Q_md_readsRule) (zEx 161 (P_md_takes G_md_takes W_md_takes F0_md_takes F1_md_takes) zE0)))) zc_179 (fun p => Nat.beq p 31 || Nat.beq p 95 || Nat.beq p 123) 400 123 [.ref 64, .int x, .int l2, .int l3] [] ((zua (zua (zua (zua (zua (zua (zua (zua (zua (zua (zua ar 71 b71) 72 b72) 73 b73) 74 b74) 75 b75) 76 b76) 77 b77) 78 b78) 79 b79) 80 b80) 81 b81), (zuf (zuf (zuf (zuf (zuf (zuf (zuf (zuf (zuf (zuf fi 64 6 c64_6) 64 7 c64_7) 64 8 c64_8) 64 9 c64_9) 64 10 c64_10) 64 11 c64_11) 64 12 c64_12) 64 13 c64_13) 64 14 c64_14) 64 15 c64_15), (m1, m2, m3, m4, m5)) = (
  bif decide (c64_14 ≤ l3) then
   some (.inr (some (.int c64_14), ((zua (zua (zua (zua (zua (zua (zua (zua (zua (zua (zua ar 71 b71) 72 b72) 73 b73) 74 b74) 75 b75) 76 b76) 77 b77) 78 b78) 79 b79) 80 b80) 81 b81), (zuf (zuf (zuf (zuf (zuf (zuf (zuf (zuf (zuf (zuf fi 64 6 c64_6) 64 7 c64_7) 64 8 c64_8) 64 9 c64_9) 64 10 c64_10) 64 11 c64_11) 64 12 c64_12) 64 13 c64_13) 64 14 c64_14) 64 15 c64_15), (m1, m2, m3, m4, m5))))
  else
   zg (Nat.beq 16 16 && (zin l3 16)) (
   zg (Nat.beq 16 16 && (zin l3 16)) (
   zg (Nat.beq 16 16 && (zin l3 16)) (
   zg (Nat.beq 16 16 && (zin l3 16)) (
   zg (Nat.beq 16 16 && (zin l3 16)) (
   zg (Nat.beq 16 16 && (zin l3 16)) (
   zg (Nat.beq 16 16 && (zin l3 16)) (
   zg (Nat.beq 16 16 && (zin l3 16)) (
   some (.inl (123, [.ref 64, .int x, .int l2, .int (l3 + 1)], [], ((zua (zua (zua (zua (zua (zua (zua (zua (zua (zua (zua (zua (zua (zua (zua ar 71 b71) 72 b72) 73 b73) 74 b74) 75 b75) 76 b76) 77 b77) 78 b78) 79 b79) 80 b80) 81 b81) 78 (zup b78 (l3.toNatClampNeg) (b73 (l3.toNatClampNeg)))) 79 (zup b79 (l3.toNatClampNeg) (b74 (l3.toNatClampNeg)))) 80 (zup b80 (l3.toNatClampNeg) (b75 (l3.toNatClampNeg)))) 81 (zup b81 (l3.toNatClampNeg) (b76 (l3.toNatClampNeg)))), (zuf (zuf (zuf (zuf (zuf (zuf (zuf (zuf (zuf (zuf fi 64 6 c64_6) 64 7 c64_7) 64 8 c64_8) 64 9 c64_9) 64 10 c64_10) 64 11 c64_11) 64 12 c64_12) 64 13 c64_13) 64 14 c64_14) 64 15 c64_15), (m1, m2, m3, m4, m5)))))))))))) : Option ((Nat × List Value × List Value × zH2) ⊕ zO2)) := by with_unfolding_all rfl
set_option maxRecDepth 20000 in
theorem k_md_law_123 {X : Nat × (Nat → Int32)} {ar fi : Nat → Nat → Int32} {m1 m2 m3 m4 m5 : Nat} {x : Int32} {l2 : Int32} {b71 : Nat → Int32} {b72 : Nat → Int32} {b73 : Nat → Int32} {b74 : Nat → Int32} {b75 : Nat → Int32} {b76 : Nat → Int32} {b77 : Nat → Int32} {c64_6 : Int32} {c64_7 : Int32} {c64_8 : Int32} {c64_9 : Int32} {c64_10 : Int32} {c64_11 : Int32} {c64_12 : Int32} {c64_13 : Int32} {c64_14 : Int32} {c64_15 : Int32} {o : zO2} : ∀ (s : U_md_law_123) (q : U_md_law_123 ⊕ T_md_law), f_md_law_123 b71 b72 b73 b74 b75 b76 b77 c64_6 c64_7 c64_8 c64_9 c64_10 c64_11 c64_12 c64_13 c64_14 c64_15 s = some q → zq (M_md_law_123 X (zEx 143 S_md_in (zEx 178 S_md_beginsText (zEx 177 S_md_readsRule (zEx 161 S_md_takes zE0)))) ar fi m1 m2 m3 m4 m5 x l2 b71 b72 b73 b74 b75 b76 b77 c64_6 c64_7 c64_8 c64_9 c64_10 c64_11 c64_12 c64_13 c64_14 c64_15 o) (fun t => O_md_law ar fi m1 m2 m3 m4 m5 t = o) q → M_md_law_123 X (zEx 143 S_md_in (zEx 178 S_md_beginsText (zEx 177 S_md_readsRule (zEx 161 S_md_takes zE0)))) ar fi m1 m2 m3 m4 m5 x l2 b71 b72 b73 b74 b75 b76 b77 c64_6 c64_7 c64_8 c64_9 c64_10 c64_11 c64_12 c64_13 c64_14 c64_15 o s := by
  intro s q h hq
  obtain ⟨l3, b78, b79, b80, b81⟩ := s
  have h : b_md_law_123 b71 b72 b73 b74 b75 b76 b77 c64_6 c64_7 c64_8 c64_9 c64_10 c64_11 c64_12 c64_13 c64_14 c64_15 l3 b78 b79 b80 b81 = some q := h
  unfold b_md_law_123 at h
  show zR2 X zFT (zEx 143 S_md_in (zEx 178 S_md_beginsText (zEx 177 S_md_readsRule (zEx 161 S_md_takes zE0)))) zc_179 123 [.ref 64, .int x, .int l2, .int l3] [] ((zua (zua (zua (zua (zua (zua (zua (zua (zua (zua (zua ar 71 b71) 72 b72) 73 b73) 74 b74) 75 b75) 76 b76) 77 b77) 78 b78) 79 b79) 80 b80) 81 b81), (zuf (zuf (zuf (zuf (zuf (zuf (zuf (zuf (zuf (zuf fi 64 6 c64_6) 64 7 c64_7) 64 8 c64_8) 64 9 c64_9) 64 10 c64_10) 64 11 c64_11) 64 12 c64_12) 64 13 c64_13) 64 14 c64_14) 64 15 c64_15), (m1, m2, m3, m4, m5)) o
  refine zT_seg t123_md_law ?_
  obtain ⟨TT, hTT⟩ : ∃ T, T = zT X zFT (zEx 143 S_md_in (zEx 178 S_md_beginsText (zEx 177 S_md_readsRule (zEx 161 S_md_takes zE0)))) zc_179 o := ⟨_, rfl⟩
  rw [← hTT]
  refine zb_el h (fun hb h => zU_t hTT hb ?_) (fun hb h => zU_f hTT hb ?_)
  · rw [hTT]
    have hz := zsi h hq
    refine (zO_mk ?_ ?_).trans hz
    · first | with_reducible rfl | exact hA0_md_law _ _ _ _ _ _ _ _ _ _ _ _
    · first | with_reducible rfl | exact hF1_md_law _ _ _ _ _ _ _ _ _ _ _
  · refine zg_el h (fun hg h => zU_ga hTT hg ?_)
    refine zg_el h (fun hg h => zU_ga hTT hg ?_)
    refine zg_el h (fun hg h => zU_ga hTT hg ?_)
    refine zg_el h (fun hg h => zU_ga hTT hg ?_)
    refine zg_el h (fun hg h => zU_ga hTT hg ?_)
    refine zg_el h (fun hg h => zU_ga hTT hg ?_)
    refine zg_el h (fun hg h => zU_ga hTT hg ?_)
    refine zg_el h (fun hg h => zU_ga hTT hg ?_)
    rw [hTT]
    have hz := zsi h hq
    refine zR2_hp ?_ ?_ hz
    · first | with_reducible rfl | exact hA2_md_law _ _ _ _ _ _ _ _ _ _ _ _ _ _ _ _
    · first | with_reducible rfl | exact hF1_md_law _ _ _ _ _ _ _ _ _ _ _
set_option maxRecDepth 1000000 in
theorem t95_md_law {X : Nat × (Nat → Int32)} {ar fi : Nat → Nat → Int32} {m1 m2 m3 m4 m5 : Nat} {x : Int32} {l2 : Int32} {l3 : Int32} {b71 : Nat → Int32} {b72 : Nat → Int32} {b73 : Nat → Int32} {b74 : Nat → Int32} {b75 : Nat → Int32} {b76 : Nat → Int32} {b77 : Nat → Int32} {b78 : Nat → Int32} {b79 : Nat → Int32} {b80 : Nat → Int32} {b81 : Nat → Int32} {c64_6 : Int32} {c64_7 : Int32} {c64_8 : Int32} {c64_9 : Int32} {c64_10 : Int32} {c64_11 : Int32} {c64_12 : Int32} {c64_13 : Int32} {c64_14 : Int32} {c64_15 : Int32} {W_md_in : Int32 → Int32 → Int32 → Int32} {F0_md_beginsText : Int32 → Int32} {F1_md_beginsText : Int32 → Int32} {F2_md_beginsText : Int32 → Int32} {F3_md_beginsText : Int32 → Int32} {Q_md_readsRule : (Nat → Int32) → (Nat → Int32) → (Nat → Int32) → (Nat → Int32) → (Nat → Int32) → (Nat → Int32) → (Nat → Int32) → Int32 → Int32 → Int32 → Int32 → Int32 → Int32 → Int32 → Int32 → Option (Int32 × (Nat → Int32) × (Nat → Int32) × (Nat → Int32) × (Nat → Int32) × (Nat → Int32) × (Nat → Int32) × Int32 × Int32 × Int32 × Int32 × Int32 × Int32 × Int32)} {G_md_takes : Int32 → Int32 → Int32 → (Nat → Int32) → Int32 → Bool} {W_md_takes : Int32 → Int32 → Int32 → (Nat → Int32) → Int32 → Int32} {F0_md_takes : Int32 → Int32 → Int32 → (Nat → Int32) → Int32 → Int32} {F1_md_takes : Int32 → Int32 → Int32 → (Nat → Int32) → Int32 → Int32} : zseg X zFT (zEx 143 (P_md_in W_md_in) (zEx 178 (P_md_beginsText F0_md_beginsText F1_md_beginsText F2_md_beginsText F3_md_beginsText) (zEx 177 (P_md_readsRule Q_md_readsRule) (zEx 161 (P_md_takes G_md_takes W_md_takes F0_md_takes F1_md_takes) zE0)))) zc_179 (fun p => Nat.beq p 31 || Nat.beq p 95 || Nat.beq p 123) 400 95 [.ref 64, .int x, .int l2, .int l3] [] ((zua (zua (zua (zua (zua (zua (zua (zua (zua (zua (zua ar 71 b71) 72 b72) 73 b73) 74 b74) 75 b75) 76 b76) 77 b77) 78 b78) 79 b79) 80 b80) 81 b81), (zuf (zuf (zuf (zuf (zuf (zuf (zuf (zuf (zuf (zuf fi 64 6 c64_6) 64 7 c64_7) 64 8 c64_8) 64 9 c64_9) 64 10 c64_10) 64 11 c64_11) 64 12 c64_12) 64 13 c64_13) 64 14 c64_14) 64 15 c64_15), (m1, m2, m3, m4, m5)) = (
  bif decide (c64_12 ≤ l3) then
   some (.inl (123, [.ref 64, .int x, .int l2, .int 0], [], ((zua (zua (zua (zua (zua (zua (zua (zua (zua (zua (zua ar 71 b71) 72 b72) 73 b73) 74 b74) 75 b75) 76 b76) 77 b77) 78 b78) 79 b79) 80 b80) 81 b81), (zuf (zuf (zuf (zuf (zuf (zuf (zuf (zuf (zuf (zuf fi 64 6 c64_6) 64 7 c64_7) 64 8 c64_8) 64 9 c64_9) 64 10 c64_10) 64 11 c64_11) 64 12 c64_12) 64 13 c64_13) 64 14 c64_14) 64 15 c64_15), (m1, m2, m3, m4, m5))))
  else
   zg (Nat.beq 16 16 && (zin l3 260)) (
   zg (Nat.beq 16 16 && (zin l3 260)) (
   some (.inl (95, [.ref 64, .int x, .int l2, .int (l3 + 1)], [], ((zua (zua (zua (zua (zua (zua (zua (zua (zua (zua (zua (zua ar 71 b71) 72 b72) 73 b73) 74 b74) 75 b75) 76 b76) 77 b77) 78 b78) 79 b79) 80 b80) 81 b81) 77 (zup b77 (l3.toNatClampNeg) (b71 (l3.toNatClampNeg)))), (zuf (zuf (zuf (zuf (zuf (zuf (zuf (zuf (zuf (zuf fi 64 6 c64_6) 64 7 c64_7) 64 8 c64_8) 64 9 c64_9) 64 10 c64_10) 64 11 c64_11) 64 12 c64_12) 64 13 c64_13) 64 14 c64_14) 64 15 c64_15), (m1, m2, m3, m4, m5)))))) : Option ((Nat × List Value × List Value × zH2) ⊕ zO2)) := by with_unfolding_all rfl
set_option maxRecDepth 20000 in
theorem k_md_law_95 {X : Nat × (Nat → Int32)} {ar fi : Nat → Nat → Int32} {m1 m2 m3 m4 m5 : Nat} {x : Int32} {l2 : Int32} {b71 : Nat → Int32} {b72 : Nat → Int32} {b73 : Nat → Int32} {b74 : Nat → Int32} {b75 : Nat → Int32} {b76 : Nat → Int32} {b78 : Nat → Int32} {b79 : Nat → Int32} {b80 : Nat → Int32} {b81 : Nat → Int32} {c64_6 : Int32} {c64_7 : Int32} {c64_8 : Int32} {c64_9 : Int32} {c64_10 : Int32} {c64_11 : Int32} {c64_12 : Int32} {c64_13 : Int32} {c64_14 : Int32} {c64_15 : Int32} {o : zO2} : ∀ (s : U_md_law_95) (q : U_md_law_95 ⊕ T_md_law), f_md_law_95 b71 b72 b73 b74 b75 b76 b78 b79 b80 b81 c64_6 c64_7 c64_8 c64_9 c64_10 c64_11 c64_12 c64_13 c64_14 c64_15 s = some q → zq (M_md_law_95 X (zEx 143 S_md_in (zEx 178 S_md_beginsText (zEx 177 S_md_readsRule (zEx 161 S_md_takes zE0)))) ar fi m1 m2 m3 m4 m5 x l2 b71 b72 b73 b74 b75 b76 b78 b79 b80 b81 c64_6 c64_7 c64_8 c64_9 c64_10 c64_11 c64_12 c64_13 c64_14 c64_15 o) (fun t => O_md_law ar fi m1 m2 m3 m4 m5 t = o) q → M_md_law_95 X (zEx 143 S_md_in (zEx 178 S_md_beginsText (zEx 177 S_md_readsRule (zEx 161 S_md_takes zE0)))) ar fi m1 m2 m3 m4 m5 x l2 b71 b72 b73 b74 b75 b76 b78 b79 b80 b81 c64_6 c64_7 c64_8 c64_9 c64_10 c64_11 c64_12 c64_13 c64_14 c64_15 o s := by
  intro s q h hq
  obtain ⟨l3, b77⟩ := s
  have h : b_md_law_95 b71 b72 b73 b74 b75 b76 b78 b79 b80 b81 c64_6 c64_7 c64_8 c64_9 c64_10 c64_11 c64_12 c64_13 c64_14 c64_15 l3 b77 = some q := h
  unfold b_md_law_95 at h
  show zR2 X zFT (zEx 143 S_md_in (zEx 178 S_md_beginsText (zEx 177 S_md_readsRule (zEx 161 S_md_takes zE0)))) zc_179 95 [.ref 64, .int x, .int l2, .int l3] [] ((zua (zua (zua (zua (zua (zua (zua (zua (zua (zua (zua ar 71 b71) 72 b72) 73 b73) 74 b74) 75 b75) 76 b76) 77 b77) 78 b78) 79 b79) 80 b80) 81 b81), (zuf (zuf (zuf (zuf (zuf (zuf (zuf (zuf (zuf (zuf fi 64 6 c64_6) 64 7 c64_7) 64 8 c64_8) 64 9 c64_9) 64 10 c64_10) 64 11 c64_11) 64 12 c64_12) 64 13 c64_13) 64 14 c64_14) 64 15 c64_15), (m1, m2, m3, m4, m5)) o
  refine zT_seg t95_md_law ?_
  obtain ⟨TT, hTT⟩ : ∃ T, T = zT X zFT (zEx 143 S_md_in (zEx 178 S_md_beginsText (zEx 177 S_md_readsRule (zEx 161 S_md_takes zE0)))) zc_179 o := ⟨_, rfl⟩
  rw [← hTT]
  refine zb_el h (fun hb h => zU_t hTT hb ?_) (fun hb h => zU_f hTT hb ?_)
  · rw [hTT]
    refine zbd_el h (fun r hr h => ?_)
    have hz := zsi h hq
    refine zR2_hp ?_ ?_ (zlp_K k_md_law_123 hr hz)
    · first | with_reducible rfl | exact hA0_md_law _ _ _ _ _ _ _ _ _ _ _ _
    · first | with_reducible rfl | exact hF1_md_law _ _ _ _ _ _ _ _ _ _ _
  · refine zg_el h (fun hg h => zU_ga hTT hg ?_)
    refine zg_el h (fun hg h => zU_ga hTT hg ?_)
    rw [hTT]
    have hz := zsi h hq
    refine zR2_hp ?_ ?_ hz
    · first | with_reducible rfl | exact hA3_md_law _ _ _ _ _ _ _ _ _ _ _ _ _
    · first | with_reducible rfl | exact hF1_md_law _ _ _ _ _ _ _ _ _ _ _
set_option maxRecDepth 1000000 in
theorem t31_md_law {X : Nat × (Nat → Int32)} {ar fi : Nat → Nat → Int32} {m1 m2 m3 m4 m5 : Nat} {x : Int32} {l2 : Int32} {b71 : Nat → Int32} {b72 : Nat → Int32} {b73 : Nat → Int32} {b74 : Nat → Int32} {b75 : Nat → Int32} {b76 : Nat → Int32} {b77 : Nat → Int32} {b78 : Nat → Int32} {b79 : Nat → Int32} {b80 : Nat → Int32} {b81 : Nat → Int32} {c64_6 : Int32} {c64_7 : Int32} {c64_8 : Int32} {c64_9 : Int32} {c64_10 : Int32} {c64_11 : Int32} {c64_12 : Int32} {c64_13 : Int32} {c64_14 : Int32} {c64_15 : Int32} {W_md_in : Int32 → Int32 → Int32 → Int32} {F0_md_beginsText : Int32 → Int32} {F1_md_beginsText : Int32 → Int32} {F2_md_beginsText : Int32 → Int32} {F3_md_beginsText : Int32 → Int32} {Q_md_readsRule : (Nat → Int32) → (Nat → Int32) → (Nat → Int32) → (Nat → Int32) → (Nat → Int32) → (Nat → Int32) → (Nat → Int32) → Int32 → Int32 → Int32 → Int32 → Int32 → Int32 → Int32 → Int32 → Option (Int32 × (Nat → Int32) × (Nat → Int32) × (Nat → Int32) × (Nat → Int32) × (Nat → Int32) × (Nat → Int32) × Int32 × Int32 × Int32 × Int32 × Int32 × Int32 × Int32)} {G_md_takes : Int32 → Int32 → Int32 → (Nat → Int32) → Int32 → Bool} {W_md_takes : Int32 → Int32 → Int32 → (Nat → Int32) → Int32 → Int32} {F0_md_takes : Int32 → Int32 → Int32 → (Nat → Int32) → Int32 → Int32} {F1_md_takes : Int32 → Int32 → Int32 → (Nat → Int32) → Int32 → Int32} : zseg X zFT (zEx 143 (P_md_in W_md_in) (zEx 178 (P_md_beginsText F0_md_beginsText F1_md_beginsText F2_md_beginsText F3_md_beginsText) (zEx 177 (P_md_readsRule Q_md_readsRule) (zEx 161 (P_md_takes G_md_takes W_md_takes F0_md_takes F1_md_takes) zE0)))) zc_179 (fun p => Nat.beq p 31 || Nat.beq p 95 || Nat.beq p 123) 400 31 [.ref 64, .int x, .int l2] [] ((zua (zua (zua (zua (zua (zua (zua (zua (zua (zua (zua ar 71 b71) 72 b72) 73 b73) 74 b74) 75 b75) 76 b76) 77 b77) 78 b78) 79 b79) 80 b80) 81 b81), (zuf (zuf (zuf (zuf (zuf (zuf (zuf (zuf (zuf (zuf fi 64 6 c64_6) 64 7 c64_7) 64 8 c64_8) 64 9 c64_9) 64 10 c64_10) 64 11 c64_11) 64 12 c64_12) 64 13 c64_13) 64 14 c64_14) 64 15 c64_15), (m1, m2, m3, m4, m5)) = (
  bif decide (l2 = 0) then
   bif !decide (l2 = 0) then
    some (.inl (95, [.ref 64, .int x, .int l2, .int 0], [], ((zua (zua (zua (zua (zua (zua (zua (zua (zua (zua (zua ar 71 b71) 72 b72) 73 b73) 74 b74) 75 b75) 76 b76) 77 b77) 78 b78) 79 b79) 80 b80) 81 b81), (zuf (zuf (zuf (zuf (zuf (zuf (zuf (zuf (zuf (zuf (zuf (zuf fi 64 6 c64_6) 64 7 c64_7) 64 8 c64_8) 64 9 c64_9) 64 10 c64_10) 64 11 c64_11) 64 12 c64_12) 64 13 c64_13) 64 14 c64_14) 64 15 c64_15) 64 6 0) 64 15 c64_14), (m1, m2, m3, m4, m5))))
   else
    some (.inr (some (.int c64_9), ((zua (zua (zua (zua (zua (zua (zua (zua (zua (zua (zua ar 71 b71) 72 b72) 73 b73) 74 b74) 75 b75) 76 b76) 77 b77) 78 b78) 79 b79) 80 b80) 81 b81), (zuf (zuf (zuf (zuf (zuf (zuf (zuf (zuf (zuf (zuf (zuf fi 64 6 c64_6) 64 7 c64_7) 64 8 c64_8) 64 9 c64_9) 64 10 c64_10) 64 11 c64_11) 64 12 c64_12) 64 13 c64_13) 64 14 c64_14) 64 15 c64_15) 64 6 0), (m1, m2, m3, m4, m5))))
  else
   bif decide (c64_8 ≤ c64_7) then
    bif !decide (l2 = 0) then
     some (.inl (95, [.ref 64, .int x, .int l2, .int 0], [], ((zua (zua (zua (zua (zua (zua (zua (zua (zua (zua (zua ar 71 b71) 72 b72) 73 b73) 74 b74) 75 b75) 76 b76) 77 b77) 78 b78) 79 b79) 80 b80) 81 b81), (zuf (zuf (zuf (zuf (zuf (zuf (zuf (zuf (zuf (zuf (zuf (zuf fi 64 6 c64_6) 64 7 c64_7) 64 8 c64_8) 64 9 c64_9) 64 10 c64_10) 64 11 c64_11) 64 12 c64_12) 64 13 c64_13) 64 14 c64_14) 64 15 c64_15) 64 6 0) 64 15 c64_14), (m1, m2, m3, m4, m5))))
    else
     some (.inr (some (.int c64_9), ((zua (zua (zua (zua (zua (zua (zua (zua (zua (zua (zua ar 71 b71) 72 b72) 73 b73) 74 b74) 75 b75) 76 b76) 77 b77) 78 b78) 79 b79) 80 b80) 81 b81), (zuf (zuf (zuf (zuf (zuf (zuf (zuf (zuf (zuf (zuf (zuf fi 64 6 c64_6) 64 7 c64_7) 64 8 c64_8) 64 9 c64_9) 64 10 c64_10) 64 11 c64_11) 64 12 c64_12) 64 13 c64_13) 64 14 c64_14) 64 15 c64_15) 64 6 0), (m1, m2, m3, m4, m5))))
   else
    zg (G_md_takes 59 c64_8 c64_7 (ar 70) c64_9) (
    zl (W_md_takes 59 c64_8 c64_7 (ar 70) c64_9) (fun v7 =>
    zl (F0_md_takes 59 c64_8 c64_7 (ar 70) c64_9) (fun v8 =>
    zl (F1_md_takes 59 c64_8 c64_7 (ar 70) c64_9) (fun v9 =>
    bif decide (v7 = 0) then
     some (.inl (31, [.ref 64, .int x, .int 0], [], ((zua (zua (zua (zua (zua (zua (zua (zua (zua (zua (zua ar 71 b71) 72 b72) 73 b73) 74 b74) 75 b75) 76 b76) 77 b77) 78 b78) 79 b79) 80 b80) 81 b81), (zuf (zuf (zuf (zuf (zuf (zuf (zuf (zuf (zuf (zuf (zuf (zuf fi 64 6 c64_6) 64 7 c64_7) 64 8 c64_8) 64 9 c64_9) 64 10 c64_10) 64 11 c64_11) 64 12 c64_12) 64 13 c64_13) 64 14 c64_14) 64 15 c64_15) 64 7 v8) 64 9 v9), (m1, m2, m3, m4, m5))))
    else
     zl (Q_md_readsRule (ar 70) b71 b72 b73 b74 b75 b76 v8 c64_8 v9 c64_10 c64_11 c64_12 c64_13 c64_14) (fun v10 => zg v10.isSome (
     bif decide (((zgt v10).1) = 0) then
      some (.inl (31, [.ref 64, .int x, .int 0], [], ((zua (zua (zua (zua (zua (zua (zua (zua (zua (zua (zua (zua (zua (zua (zua (zua (zua ar 71 b71) 72 b72) 73 b73) 74 b74) 75 b75) 76 b76) 77 b77) 78 b78) 79 b79) 80 b80) 81 b81) 71 (((zgt v10).2.1))) 72 (((zgt v10).2.2.1))) 73 (((zgt v10).2.2.2.1))) 74 (((zgt v10).2.2.2.2.1))) 75 (((zgt v10).2.2.2.2.2.1))) 76 (((zgt v10).2.2.2.2.2.2.1))), (zuf (zuf (zuf (zuf (zuf (zuf (zuf (zuf (zuf (zuf (zuf (zuf (zuf (zuf (zuf (zuf (zuf (zuf (zuf fi 64 6 c64_6) 64 7 c64_7) 64 8 c64_8) 64 9 c64_9) 64 10 c64_10) 64 11 c64_11) 64 12 c64_12) 64 13 c64_13) 64 14 c64_14) 64 15 c64_15) 64 7 v8) 64 9 v9) 64 7 (((zgt v10).2.2.2.2.2.2.2.1))) 64 9 (((zgt v10).2.2.2.2.2.2.2.2.1))) 64 10 (((zgt v10).2.2.2.2.2.2.2.2.2.1))) 64 11 (((zgt v10).2.2.2.2.2.2.2.2.2.2.1))) 64 12 (((zgt v10).2.2.2.2.2.2.2.2.2.2.2.1))) 64 13 (((zgt v10).2.2.2.2.2.2.2.2.2.2.2.2.1))) 64 14 (((zgt v10).2.2.2.2.2.2.2.2.2.2.2.2.2))), (m1, m2, m3, m4, m5))))
     else
      some (.inl (31, [.ref 64, .int x, .int 1], [], ((zua (zua (zua (zua (zua (zua (zua (zua (zua (zua (zua (zua (zua (zua (zua (zua (zua ar 71 b71) 72 b72) 73 b73) 74 b74) 75 b75) 76 b76) 77 b77) 78 b78) 79 b79) 80 b80) 81 b81) 71 (((zgt v10).2.1))) 72 (((zgt v10).2.2.1))) 73 (((zgt v10).2.2.2.1))) 74 (((zgt v10).2.2.2.2.1))) 75 (((zgt v10).2.2.2.2.2.1))) 76 (((zgt v10).2.2.2.2.2.2.1))), (zuf (zuf (zuf (zuf (zuf (zuf (zuf (zuf (zuf (zuf (zuf (zuf (zuf (zuf (zuf (zuf (zuf (zuf (zuf fi 64 6 c64_6) 64 7 c64_7) 64 8 c64_8) 64 9 c64_9) 64 10 c64_10) 64 11 c64_11) 64 12 c64_12) 64 13 c64_13) 64 14 c64_14) 64 15 c64_15) 64 7 v8) 64 9 v9) 64 7 (((zgt v10).2.2.2.2.2.2.2.1))) 64 9 (((zgt v10).2.2.2.2.2.2.2.2.1))) 64 10 (((zgt v10).2.2.2.2.2.2.2.2.2.1))) 64 11 (((zgt v10).2.2.2.2.2.2.2.2.2.2.1))) 64 12 (((zgt v10).2.2.2.2.2.2.2.2.2.2.2.1))) 64 13 (((zgt v10).2.2.2.2.2.2.2.2.2.2.2.2.1))) 64 14 (((zgt v10).2.2.2.2.2.2.2.2.2.2.2.2.2))), (m1, m2, m3, m4, m5)))))))))) : Option ((Nat × List Value × List Value × zH2) ⊕ zO2)) := by with_unfolding_all rfl
set_option maxRecDepth 20000 in
theorem k_md_law_31 {X : Nat × (Nat → Int32)} {ar fi : Nat → Nat → Int32} {m1 m2 m3 m4 m5 : Nat} {x : Int32} {b77 : Nat → Int32} {b78 : Nat → Int32} {b79 : Nat → Int32} {b80 : Nat → Int32} {b81 : Nat → Int32} {c64_6 : Int32} {c64_8 : Int32} {c64_15 : Int32} {o : zO2} : ∀ (s : U_md_law_31) (q : U_md_law_31 ⊕ T_md_law), f_md_law_31 (ar 70) b77 b78 b79 b80 b81 c64_8 c64_15 s = some q → zq (M_md_law_31 X (zEx 143 S_md_in (zEx 178 S_md_beginsText (zEx 177 S_md_readsRule (zEx 161 S_md_takes zE0)))) ar fi m1 m2 m3 m4 m5 x b77 b78 b79 b80 b81 c64_6 c64_8 c64_15 o) (fun t => O_md_law ar fi m1 m2 m3 m4 m5 t = o) q → M_md_law_31 X (zEx 143 S_md_in (zEx 178 S_md_beginsText (zEx 177 S_md_readsRule (zEx 161 S_md_takes zE0)))) ar fi m1 m2 m3 m4 m5 x b77 b78 b79 b80 b81 c64_6 c64_8 c64_15 o s := by
  intro s q h hq
  obtain ⟨l2, b71, b72, b73, b74, b75, b76, c64_7, c64_9, c64_10, c64_11, c64_12, c64_13, c64_14⟩ := s
  have h : b_md_law_31 (ar 70) b77 b78 b79 b80 b81 c64_8 c64_15 l2 b71 b72 b73 b74 b75 b76 c64_7 c64_9 c64_10 c64_11 c64_12 c64_13 c64_14 = some q := h
  unfold b_md_law_31 at h
  show zR2 X zFT (zEx 143 S_md_in (zEx 178 S_md_beginsText (zEx 177 S_md_readsRule (zEx 161 S_md_takes zE0)))) zc_179 31 [.ref 64, .int x, .int l2] [] ((zua (zua (zua (zua (zua (zua (zua (zua (zua (zua (zua ar 71 b71) 72 b72) 73 b73) 74 b74) 75 b75) 76 b76) 77 b77) 78 b78) 79 b79) 80 b80) 81 b81), (zuf (zuf (zuf (zuf (zuf (zuf (zuf (zuf (zuf (zuf fi 64 6 c64_6) 64 7 c64_7) 64 8 c64_8) 64 9 c64_9) 64 10 c64_10) 64 11 c64_11) 64 12 c64_12) 64 13 c64_13) 64 14 c64_14) 64 15 c64_15), (m1, m2, m3, m4, m5)) o
  refine zT_seg t31_md_law ?_
  obtain ⟨TT, hTT⟩ : ∃ T, T = zT X zFT (zEx 143 S_md_in (zEx 178 S_md_beginsText (zEx 177 S_md_readsRule (zEx 161 S_md_takes zE0)))) zc_179 o := ⟨_, rfl⟩
  rw [← hTT]
  refine zb_el h (fun hb h => zU_t hTT hb ?_) (fun hb h => zU_f hTT hb ?_)
  · refine zb_el h (fun hb h => zU_t hTT hb ?_) (fun hb h => zU_f hTT hb ?_)
    · rw [hTT]
      refine zbd_el h (fun r hr h => ?_)
      have hz := zsi h hq
      refine zR2_hp ?_ ?_ (zlp_K k_md_law_95 hr hz)
      · first | with_reducible rfl | exact hA0_md_law _ _ _ _ _ _ _ _ _ _ _ _
      · first | with_reducible rfl | exact hF4_md_law _ _ _ _ _ _ _ _ _ _ _ _ _
    · rw [hTT]
      have hz := zsi h hq
      refine (zO_mk ?_ ?_).trans hz
      · first | with_reducible rfl | exact hA0_md_law _ _ _ _ _ _ _ _ _ _ _ _
      · first | with_reducible rfl | exact hF5_md_law _ _ _ _ _ _ _ _ _ _ _ _
  · refine zb_el h (fun hb h => zU_t hTT hb ?_) (fun hb h => zU_f hTT hb ?_)
    · refine zb_el h (fun hb h => zU_t hTT hb ?_) (fun hb h => zU_f hTT hb ?_)
      · rw [hTT]
        refine zbd_el h (fun r hr h => ?_)
        have hz := zsi h hq
        refine zR2_hp ?_ ?_ (zlp_K k_md_law_95 hr hz)
        · first | with_reducible rfl | exact hA0_md_law _ _ _ _ _ _ _ _ _ _ _ _
        · first | with_reducible rfl | exact hF4_md_law _ _ _ _ _ _ _ _ _ _ _ _ _
      · rw [hTT]
        have hz := zsi h hq
        refine (zO_mk ?_ ?_).trans hz
        · first | with_reducible rfl | exact hA0_md_law _ _ _ _ _ _ _ _ _ _ _ _
        · first | with_reducible rfl | exact hF5_md_law _ _ _ _ _ _ _ _ _ _ _ _
    · refine zg_el h (fun hg h => zU_g hTT hg ?_)
      refine zl_el h (fun h => zU_l hTT ?_)
      refine zl_el h (fun h => zU_l hTT ?_)
      refine zl_el h (fun h => zU_l hTT ?_)
      refine zb_el h (fun hb h => zU_t hTT hb ?_) (fun hb h => zU_f hTT hb ?_)
      · rw [hTT]
        have hz := zsi h hq
        refine zR2_hp ?_ ?_ hz
        · first | with_reducible rfl | exact hA0_md_law _ _ _ _ _ _ _ _ _ _ _ _
        · first | with_reducible rfl | exact hF6_md_law _ _ _ _ _ _ _ _ _ _ _ _ _
      · refine zbd_el h (fun v10 hv h => zU_c hTT hv ?_)
        refine zb_el h (fun hb h => zU_t hTT hb ?_) (fun hb h => zU_f hTT hb ?_)
        · rw [hTT]
          have hz := zsi h hq
          refine zR2_hp ?_ ?_ hz
          · first | with_reducible rfl | exact hA7_md_law _ _ _ _ _ _ _ _ _ _ _ _ _ _ _ _ _ _
          · first | with_reducible rfl | exact hF8_md_law _ _ _ _ _ _ _ _ _ _ _ _ _ _ _ _ _ _ _ _
        · rw [hTT]
          have hz := zsi h hq
          refine zR2_hp ?_ ?_ hz
          · first | with_reducible rfl | exact hA7_md_law _ _ _ _ _ _ _ _ _ _ _ _ _ _ _ _ _ _
          · first | with_reducible rfl | exact hF8_md_law _ _ _ _ _ _ _ _ _ _ _ _ _ _ _ _ _ _ _ _
set_option maxRecDepth 1000000 in
theorem t_md_law {X : Nat × (Nat → Int32)} {ar fi : Nat → Nat → Int32} {m1 m2 m3 m4 m5 : Nat} {x : Int32} {W_md_in : Int32 → Int32 → Int32 → Int32} {F0_md_beginsText : Int32 → Int32} {F1_md_beginsText : Int32 → Int32} {F2_md_beginsText : Int32 → Int32} {F3_md_beginsText : Int32 → Int32} {Q_md_readsRule : (Nat → Int32) → (Nat → Int32) → (Nat → Int32) → (Nat → Int32) → (Nat → Int32) → (Nat → Int32) → (Nat → Int32) → Int32 → Int32 → Int32 → Int32 → Int32 → Int32 → Int32 → Int32 → Option (Int32 × (Nat → Int32) × (Nat → Int32) × (Nat → Int32) × (Nat → Int32) × (Nat → Int32) × (Nat → Int32) × Int32 × Int32 × Int32 × Int32 × Int32 × Int32 × Int32)} {G_md_takes : Int32 → Int32 → Int32 → (Nat → Int32) → Int32 → Bool} {W_md_takes : Int32 → Int32 → Int32 → (Nat → Int32) → Int32 → Int32} {F0_md_takes : Int32 → Int32 → Int32 → (Nat → Int32) → Int32 → Int32} {F1_md_takes : Int32 → Int32 → Int32 → (Nat → Int32) → Int32 → Int32} : zseg X zFT (zEx 143 (P_md_in W_md_in) (zEx 178 (P_md_beginsText F0_md_beginsText F1_md_beginsText F2_md_beginsText F3_md_beginsText) (zEx 177 (P_md_readsRule Q_md_readsRule) (zEx 161 (P_md_takes G_md_takes W_md_takes F0_md_takes F1_md_takes) zE0)))) zc_179 (fun p => Nat.beq p 31 || Nat.beq p 95 || Nat.beq p 123) 400 0 [.ref 64, .int x] [] (ar, fi, (m1, m2, m3, m4, m5)) = (
  zl (W_md_in x 1 240) (fun v1 =>
  bif decide (v1 = 0) then
   some (.inr (some (.int (-1)), (ar, fi, (m1, m2, m3, m4, m5))))
  else
   bif decide (x ≤ fi 64 6) then
    zl (F0_md_beginsText x) (fun v2 =>
    zl (F1_md_beginsText x) (fun v3 =>
    zl (F2_md_beginsText x) (fun v4 =>
    zl (F3_md_beginsText x) (fun v5 =>
    zl (Q_md_readsRule (ar 70) (ar 71) (ar 72) (ar 73) (ar 74) (ar 75) (ar 76) v2 v3 (fi 64 9) (fi 64 10) (fi 64 11) v4 (fi 64 13) v5) (fun v6 => zg v6.isSome (
    some (.inl (31, [.ref 64, .int x, .int (((zgt v6).1))], [], ((zua (zua (zua (zua (zua (zua ar 71 (((zgt v6).2.1))) 72 (((zgt v6).2.2.1))) 73 (((zgt v6).2.2.2.1))) 74 (((zgt v6).2.2.2.2.1))) 75 (((zgt v6).2.2.2.2.2.1))) 76 (((zgt v6).2.2.2.2.2.2.1))), (zuf (zuf (zuf (zuf (zuf (zuf (zuf (zuf (zuf (zuf (zuf fi 64 7 v2) 64 8 v3) 64 12 v4) 64 14 v5) 64 7 (((zgt v6).2.2.2.2.2.2.2.1))) 64 9 (((zgt v6).2.2.2.2.2.2.2.2.1))) 64 10 (((zgt v6).2.2.2.2.2.2.2.2.2.1))) 64 11 (((zgt v6).2.2.2.2.2.2.2.2.2.2.1))) 64 12 (((zgt v6).2.2.2.2.2.2.2.2.2.2.2.1))) 64 13 (((zgt v6).2.2.2.2.2.2.2.2.2.2.2.2.1))) 64 14 (((zgt v6).2.2.2.2.2.2.2.2.2.2.2.2.2))), (m1, m2, m3, m4, m5))))))))))
   else
    some (.inr (some (.int (-1)), (ar, fi, (m1, m2, m3, m4, m5))))) : Option ((Nat × List Value × List Value × zH2) ⊕ zO2)) := by with_unfolding_all rfl
set_option maxRecDepth 20000 in
theorem e_md_law {X : Nat × (Nat → Int32)} {ar fi : Nat → Nat → Int32} {m1 m2 m3 m4 m5 : Nat} {x : Int32} {o : zO2} : ∀ (q : T_md_law), q_md_law x (ar 70) (ar 71) (ar 72) (ar 73) (ar 74) (ar 75) (ar 76) (ar 77) (ar 78) (ar 79) (ar 80) (ar 81) (fi 64 6) (fi 64 7) (fi 64 8) (fi 64 9) (fi 64 10) (fi 64 11) (fi 64 12) (fi 64 13) (fi 64 14) (fi 64 15) = some q → (fun t => O_md_law ar fi m1 m2 m3 m4 m5 t = o) q → zR2 X zFT (zEx 143 S_md_in (zEx 178 S_md_beginsText (zEx 177 S_md_readsRule (zEx 161 S_md_takes zE0)))) zc_179 0 [.ref 64, .int x] [] (ar, fi, (m1, m2, m3, m4, m5)) o := by
  intro q h hq
  unfold q_md_law at h
  refine zT_seg t_md_law ?_
  obtain ⟨TT, hTT⟩ : ∃ T, T = zT X zFT (zEx 143 S_md_in (zEx 178 S_md_beginsText (zEx 177 S_md_readsRule (zEx 161 S_md_takes zE0)))) zc_179 o := ⟨_, rfl⟩
  rw [← hTT]
  refine zl_el h (fun h => zU_l hTT ?_)
  refine zb_el h (fun hb h => zU_t hTT hb ?_) (fun hb h => zU_f hTT hb ?_)
  · rw [hTT]
    have hz := zsi (P := (fun t => O_md_law ar fi m1 m2 m3 m4 m5 t = o)) h hq
    refine (zO_mk ?_ ?_).trans hz
    · first | with_reducible rfl | exact hA9_md_law _
    · first | with_reducible rfl | exact hF10_md_law _
  · refine zb_el h (fun hb h => zU_t hTT hb ?_) (fun hb h => zU_f hTT hb ?_)
    · refine zl_el h (fun h => zU_l hTT ?_)
      refine zl_el h (fun h => zU_l hTT ?_)
      refine zl_el h (fun h => zU_l hTT ?_)
      refine zl_el h (fun h => zU_l hTT ?_)
      refine zbd_el h (fun v6 hv h => zU_c hTT hv ?_)
      rw [hTT]
      apply zR2_hp ?hA ?hF (zlp_K k_md_law_31 h hq)
      case hA => first | with_reducible rfl | exact hA11_md_law _ _ _ _ _ _ _
      case hF => first | with_reducible rfl | exact hF12_md_law _ _ _ _ _ _ _ _ _ _ _ _
    · rw [hTT]
      have hz := zsi (P := (fun t => O_md_law ar fi m1 m2 m3 m4 m5 t = o)) h hq
      refine (zO_mk ?_ ?_).trans hz
      · first | with_reducible rfl | exact hA9_md_law _
      · first | with_reducible rfl | exact hF10_md_law _
theorem ok_md_law (X : Nat × (Nat → Int32)) : zOkS X 179 S_md_law 9 := zOkS_new (zOkE_cons (ok_md_in X) (by decide) (zOkE_cons (ok_md_beginsText X) (by decide) (zOkE_cons (ok_md_readsRule X) (by decide) (zOkE_cons (ok_md_takes X) (by decide) (zOkE_nil X 8))))) (by
  intro args g o h
  obtain ⟨ar, fi, m1, m2, m3, m4, m5⟩ := g
  unfold S_md_law P_md_law at h
  split at h
  · refine zb_el h (fun hI0 k0 => ?_) (fun _ h10 => ?_)
    · try simp only [Bool.and_eq_true] at hI0
      have j0 := hI0
      have e0 := Nat.eq_of_beq_eq_true j0
      subst e0
      exact zpe_el k0 (fun t ht ho => by obtain ⟨t0, t1, t2, t3, t4, t5, t6, t7, t8, t9, t10, t11, t12, t13, t14, t15, t16, t17, t18, t19, t20, t21⟩ := t; exact e_md_law _ ht ho)
    · cases h10
  · cases h)
