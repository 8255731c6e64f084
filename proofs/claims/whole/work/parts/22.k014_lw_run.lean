abbrev T_lw_run : Type := Int32 × (Nat → Int32)
abbrev U_lw_run_9 : Type := Int32 × Int32 × Int32 × (Nat → Int32)
def b_lw_run_9 (y : Int32) (a24 : Nat → Int32) (a25 : Nat → Int32) (a50 : Nat → Int32) (l4 : Int32) (l5 : Int32) (l6 : Int32) (b26 : Nat → Int32) : Option (U_lw_run_9 ⊕ T_lw_run) :=
  bif decide (240 ≤ l6) then
   bif decide (1 ≤ l4) then
    zg (zin (l4 - 1) 32) (
    some (.inr (b26 ((l4 - 1).toNatClampNeg), b26)))
   else
    some (.inr (0, b26))
  else
   bif decide (l5 < 0) then
    bif decide (1 ≤ l4) then
     zg (zin (l4 - 1) 32) (
     some (.inr (b26 ((l4 - 1).toNatClampNeg), b26)))
    else
     some (.inr (0, b26))
   else
    bif decide (y ≤ l5) then
     bif decide (1 ≤ l4) then
      zg (zin (l4 - 1) 32) (
      some (.inr (b26 ((l4 - 1).toNatClampNeg), b26)))
     else
      some (.inr (0, b26))
    else
     zg (zin l5 240) (
     zg (zin l5 240) (
     bif decide (a24 (l5.toNatClampNeg) = 1) then
      bif decide (l4 < 32) then
       bif !decide (a24 (l5.toNatClampNeg) = 1) then
        zg (zin (a25 (l5.toNatClampNeg)) 9) (
        zg (zin l4 32) (
        some (.inl (l4 + 1, l5 + 1, l6 + 1, (zup b26 (l4.toNatClampNeg) (a50 ((a25 (l5.toNatClampNeg)).toNatClampNeg)))))))
       else
        zg (zin l4 32) (
        some (.inl (l4 + 1, l5 + 1, l6 + 1, (zup b26 (l4.toNatClampNeg) (a25 (l5.toNatClampNeg))))))
      else
       some (.inr (0, b26))
     else
      bif !decide (a24 (l5.toNatClampNeg) = 2) then
       bif decide (1 ≤ l4) then
        bif !decide (a24 (l5.toNatClampNeg) = 3) then
         bif decide (a24 (l5.toNatClampNeg) = 4) then
          zg (zin (l4 - 1) 32) (
          bif decide (b26 ((l4 - 1).toNatClampNeg) = 0) then
           bif !decide (a24 (l5.toNatClampNeg) = 5) then
            some (.inl (l4, a25 (l5.toNatClampNeg), l6 + 1, b26))
           else
            some (.inl (l4 + (-1), l5 + 1, l6 + 1, b26))
          else
           bif !decide (a24 (l5.toNatClampNeg) = 5) then
            some (.inl (l4 + (-1), l5 + 1, l6 + 1, b26))
           else
            some (.inl (l4, a25 (l5.toNatClampNeg), l6 + 1, b26)))
         else
          bif !decide (a24 (l5.toNatClampNeg) = 5) then
           bif decide (a24 (l5.toNatClampNeg) = 47) then
            bif decide (l4 + (-1) < 1) then
             some (.inr (0, b26))
            else
             zg (zin (l4 + (-1)) 32) (
             bif !decide (b26 ((l4 + (-1)).toNatClampNeg) = 0) then
              zg (zin ((l4 + (-1)) - 1) 32) (
              zg (zin (l4 + (-1)) 32) (
              zg (g_lw_reckon (a24 (l5.toNatClampNeg)) (b26 (((l4 + (-1)) - 1).toNatClampNeg)) (b26 ((l4 + (-1)).toNatClampNeg))) (
              zl (w_lw_reckon (a24 (l5.toNatClampNeg)) (b26 (((l4 + (-1)) - 1).toNatClampNeg)) (b26 ((l4 + (-1)).toNatClampNeg))) (fun v1 =>
              zg (zin ((l4 + (-1)) - 1) 32) (
              some (.inl (l4 + (-1), l5 + 1, l6 + 1, (zup b26 (((l4 + (-1)) - 1).toNatClampNeg) v1))))))))
             else
              some (.inr (0, b26)))
           else
            bif !decide (a24 (l5.toNatClampNeg) = 37) then
             bif decide (l4 + (-1) < 1) then
              some (.inr (0, b26))
             else
              zg (zin ((l4 + (-1)) - 1) 32) (
              zg (zin (l4 + (-1)) 32) (
              zg (g_lw_reckon (a24 (l5.toNatClampNeg)) (b26 (((l4 + (-1)) - 1).toNatClampNeg)) (b26 ((l4 + (-1)).toNatClampNeg))) (
              zl (w_lw_reckon (a24 (l5.toNatClampNeg)) (b26 (((l4 + (-1)) - 1).toNatClampNeg)) (b26 ((l4 + (-1)).toNatClampNeg))) (fun v2 =>
              zg (zin ((l4 + (-1)) - 1) 32) (
              some (.inl (l4 + (-1), l5 + 1, l6 + 1, (zup b26 (((l4 + (-1)) - 1).toNatClampNeg) v2))))))))
            else
             bif decide (l4 + (-1) < 1) then
              some (.inr (0, b26))
             else
              zg (zin (l4 + (-1)) 32) (
              bif !decide (b26 ((l4 + (-1)).toNatClampNeg) = 0) then
               zg (zin ((l4 + (-1)) - 1) 32) (
               zg (zin (l4 + (-1)) 32) (
               zg (g_lw_reckon (a24 (l5.toNatClampNeg)) (b26 (((l4 + (-1)) - 1).toNatClampNeg)) (b26 ((l4 + (-1)).toNatClampNeg))) (
               zl (w_lw_reckon (a24 (l5.toNatClampNeg)) (b26 (((l4 + (-1)) - 1).toNatClampNeg)) (b26 ((l4 + (-1)).toNatClampNeg))) (fun v3 =>
               zg (zin ((l4 + (-1)) - 1) 32) (
               some (.inl (l4 + (-1), l5 + 1, l6 + 1, (zup b26 (((l4 + (-1)) - 1).toNatClampNeg) v3))))))))
              else
               some (.inr (0, b26)))
          else
           zg (zin (l4 - 1) 32) (
           bif decide (b26 ((l4 - 1).toNatClampNeg) = 0) then
            bif !decide (a24 (l5.toNatClampNeg) = 5) then
             some (.inl (l4, a25 (l5.toNatClampNeg), l6 + 1, b26))
            else
             some (.inl (l4 + (-1), l5 + 1, l6 + 1, b26))
           else
            bif !decide (a24 (l5.toNatClampNeg) = 5) then
             some (.inl (l4 + (-1), l5 + 1, l6 + 1, b26))
            else
             some (.inl (l4, a25 (l5.toNatClampNeg), l6 + 1, b26)))
        else
         zg (zin (l4 - 1) 32) (
         zg (zin (l4 - 1) 32) (
         some (.inl (l4, l5 + 1, l6 + 1, (zup b26 ((l4 - 1).toNatClampNeg) (1 - (b26 ((l4 - 1).toNatClampNeg))))))))
       else
        some (.inr (0, b26))
      else
       bif decide (l4 < 32) then
        bif !decide (a24 (l5.toNatClampNeg) = 1) then
         zg (zin (a25 (l5.toNatClampNeg)) 9) (
         zg (zin l4 32) (
         some (.inl (l4 + 1, l5 + 1, l6 + 1, (zup b26 (l4.toNatClampNeg) (a50 ((a25 (l5.toNatClampNeg)).toNatClampNeg)))))))
        else
         zg (zin l4 32) (
         some (.inl (l4 + 1, l5 + 1, l6 + 1, (zup b26 (l4.toNatClampNeg) (a25 (l5.toNatClampNeg))))))
       else
        some (.inr (0, b26))))
def f_lw_run_9 (y : Int32) (a24 : Nat → Int32) (a25 : Nat → Int32) (a50 : Nat → Int32) : U_lw_run_9 → Option (U_lw_run_9 ⊕ T_lw_run) := fun s => b_lw_run_9 y a24 a25 a50 s.1 s.2.1 s.2.2.1 s.2.2.2
noncomputable def l_lw_run_9 (y : Int32) (a24 : Nat → Int32) (a25 : Nat → Int32) (a50 : Nat → Int32) (l4 : Int32) (l5 : Int32) (l6 : Int32) (b26 : Nat → Int32) : Option T_lw_run := zlp (f_lw_run_9 y a24 a25 a50) (l4, l5, l6, b26)
noncomputable def q_lw_run (x : Int32) (y : Int32) (a24 : Nat → Int32) (a25 : Nat → Int32) (a26 : Nat → Int32) (a50 : Nat → Int32) : Option T_lw_run :=
  l_lw_run_9 y a24 a25 a50 0 x 0 a26
def P_lw_run (Q : Int32 → Int32 → (Nat → Int32) → (Nat → Int32) → (Nat → Int32) → (Nat → Int32) → Option (Int32 × (Nat → Int32))) : zSp := fun as g => match as with
  | [.ref a, .int x, .int y, .ref b] => bif Nat.beq a 23 && Nat.beq b 50 then zpe (Q x y (g.1 24) (g.1 25) (g.1 26) (g.1 50)) (fun t => (some (.int (t.1)), ((zua g.1 26 t.2), g.2.1, g.2.2))) else bif Nat.beq a 31 && Nat.beq b 50 then zpe (Q x y (g.1 32) (g.1 33) (g.1 34) (g.1 50)) (fun t => (some (.int (t.1)), ((zua g.1 34 t.2), g.2.1, g.2.2))) else none
  | _ => none
noncomputable abbrev S_lw_run : zSp := P_lw_run q_lw_run
theorem hA5_lw_run (F : Nat → Nat → Int32) : F = (zua F 34 (F 34)) := zuak_ix F [] [(34, none)] rfl
theorem hA4_lw_run (F : Nat → Nat → Int32) (w0 w1 : Nat → Int32) : (zua (zua F 34 w0) 34 w1) = (zua F 34 w1) := zuak_ix F [(34, w0), (34, w1)] [(34, some 1)] rfl
theorem hA3_lw_run (F : Nat → Nat → Int32) (w0 : Nat → Int32) : (zua F 34 w0) = (zua F 34 w0) := zuak_ix F [(34, w0)] [(34, some 0)] rfl
theorem hA2_lw_run (F : Nat → Nat → Int32) : F = (zua F 26 (F 26)) := zuak_ix F [] [(26, none)] rfl
theorem hA1_lw_run (F : Nat → Nat → Int32) (w0 w1 : Nat → Int32) : (zua (zua F 26 w0) 26 w1) = (zua F 26 w1) := zuak_ix F [(26, w0), (26, w1)] [(26, some 1)] rfl
theorem hA0_lw_run (F : Nat → Nat → Int32) (w0 : Nat → Int32) : (zua F 26 w0) = (zua F 26 w0) := zuak_ix F [(26, w0)] [(26, some 0)] rfl
def O_lw_run_23_50 (ar fi : Nat → Nat → Int32) (m1 : Nat) (m2 : Nat) (m3 : Nat) (m4 : Nat) (m5 : Nat) (t : T_lw_run) : zO2 := match t with
  | (t0, t1) => (some (.int (t0)), ((zua ar 26 t1), fi, (m1, m2, m3, m4, m5)))
def M_lw_run_9_23_50 (X : Nat × (Nat → Int32)) (E : zTE) (ar fi : Nat → Nat → Int32) (m1 : Nat) (m2 : Nat) (m3 : Nat) (m4 : Nat) (m5 : Nat) (x : Int32) (y : Int32) (o : zO2) (s : U_lw_run_9) : Prop := match s with
  | (l4, l5, l6, b26) => zR2 X zFT E zc_46 9 [.ref 23, .int x, .int y, .ref 50, .int l4, .int l5, .int l6] [] ((zua ar 26 b26), fi, (m1, m2, m3, m4, m5)) o
set_option maxRecDepth 1000000 in
theorem t9_lw_run_23_50 {X : Nat × (Nat → Int32)} {ar fi : Nat → Nat → Int32} {m1 m2 m3 m4 m5 : Nat} {x y : Int32} {l4 : Int32} {l5 : Int32} {l6 : Int32} {b26 : Nat → Int32} {G_lw_reckon : Int32 → Int32 → Int32 → Bool} {W_lw_reckon : Int32 → Int32 → Int32 → Int32} : zseg X zFT (zEx 47 (P_lw_reckon G_lw_reckon W_lw_reckon) zE0) zc_46 (fun p => Nat.beq p 9 || Nat.beq p 49 || Nat.beq p 98 || Nat.beq p 191 || Nat.beq p 215) 400 9 [.ref 23, .int x, .int y, .ref 50, .int l4, .int l5, .int l6] [] ((zua ar 26 b26), fi, (m1, m2, m3, m4, m5)) = (
  bif decide (240 ≤ l6) then
   bif decide (1 ≤ l4) then
    zg (Nat.beq 16 16 && (zin (l4 - 1) 32)) (
    some (.inr (some (.int (b26 ((l4 - 1).toNatClampNeg))), ((zua ar 26 b26), fi, (m1, m2, m3, m4, m5)))))
   else
    some (.inr (some (.int 0), ((zua ar 26 b26), fi, (m1, m2, m3, m4, m5))))
  else
   bif decide (l5 < 0) then
    bif decide (1 ≤ l4) then
     zg (Nat.beq 16 16 && (zin (l4 - 1) 32)) (
     some (.inr (some (.int (b26 ((l4 - 1).toNatClampNeg))), ((zua ar 26 b26), fi, (m1, m2, m3, m4, m5)))))
    else
     some (.inr (some (.int 0), ((zua ar 26 b26), fi, (m1, m2, m3, m4, m5))))
   else
    bif decide (y ≤ l5) then
     bif decide (1 ≤ l4) then
      zg (Nat.beq 16 16 && (zin (l4 - 1) 32)) (
      some (.inr (some (.int (b26 ((l4 - 1).toNatClampNeg))), ((zua ar 26 b26), fi, (m1, m2, m3, m4, m5)))))
     else
      some (.inr (some (.int 0), ((zua ar 26 b26), fi, (m1, m2, m3, m4, m5))))
    else
     zg (Nat.beq 16 16 && (zin l5 240)) (
     zg (Nat.beq 16 16 && (zin l5 240)) (
     some (.inl (49, [.ref 23, .int x, .int y, .ref 50, .int l4, .int (l5 + 1), .int l6, .int ((ar 24) (l5.toNatClampNeg)), .int ((ar 25) (l5.toNatClampNeg))], [], ((zua ar 26 b26), fi, (m1, m2, m3, m4, m5)))))) : Option ((Nat × List Value × List Value × zH2) ⊕ zO2)) := by with_unfolding_all rfl
set_option maxRecDepth 1000000 in
theorem t9c49_lw_run_23_50 {X : Nat × (Nat → Int32)} {ar fi : Nat → Nat → Int32} {m1 m2 m3 m4 m5 : Nat} {x y : Int32} {l4 : Int32} {l5 : Int32} {l6 : Int32} {l7 : Int32} {l8 : Int32} {b26 : Nat → Int32} {G_lw_reckon : Int32 → Int32 → Int32 → Bool} {W_lw_reckon : Int32 → Int32 → Int32 → Int32} : zseg X zFT (zEx 47 (P_lw_reckon G_lw_reckon W_lw_reckon) zE0) zc_46 (fun p => Nat.beq p 9 || Nat.beq p 49 || Nat.beq p 98 || Nat.beq p 191 || Nat.beq p 215) 400 49 [.ref 23, .int x, .int y, .ref 50, .int l4, .int l5, .int l6, .int l7, .int l8] [] ((zua ar 26 b26), fi, (m1, m2, m3, m4, m5)) = (
  bif decide (l7 = 1) then
   bif decide (l4 < 32) then
    bif !decide (l7 = 1) then
     zg (Nat.beq 16 16 && (zin l8 9)) (
     zg (Nat.beq 16 16 && (zin l4 32)) (
     some (.inl (9, [.ref 23, .int x, .int y, .ref 50, .int (l4 + 1), .int l5, .int (l6 + 1)], [], ((zua (zua ar 26 b26) 26 (zup b26 (l4.toNatClampNeg) ((ar 50) (l8.toNatClampNeg)))), fi, (m1, m2, m3, m4, m5))))))
    else
     zg (Nat.beq 16 16 && (zin l4 32)) (
     some (.inl (9, [.ref 23, .int x, .int y, .ref 50, .int (l4 + 1), .int l5, .int (l6 + 1)], [], ((zua (zua ar 26 b26) 26 (zup b26 (l4.toNatClampNeg) l8)), fi, (m1, m2, m3, m4, m5)))))
   else
    some (.inr (some (.int 0), ((zua ar 26 b26), fi, (m1, m2, m3, m4, m5))))
  else
   bif !decide (l7 = 2) then
    some (.inl (98, [.ref 23, .int x, .int y, .ref 50, .int l4, .int l5, .int l6, .int l7, .int l8], [], ((zua ar 26 b26), fi, (m1, m2, m3, m4, m5))))
   else
    bif decide (l4 < 32) then
     bif !decide (l7 = 1) then
      zg (Nat.beq 16 16 && (zin l8 9)) (
      zg (Nat.beq 16 16 && (zin l4 32)) (
      some (.inl (9, [.ref 23, .int x, .int y, .ref 50, .int (l4 + 1), .int l5, .int (l6 + 1)], [], ((zua (zua ar 26 b26) 26 (zup b26 (l4.toNatClampNeg) ((ar 50) (l8.toNatClampNeg)))), fi, (m1, m2, m3, m4, m5))))))
     else
      zg (Nat.beq 16 16 && (zin l4 32)) (
      some (.inl (9, [.ref 23, .int x, .int y, .ref 50, .int (l4 + 1), .int l5, .int (l6 + 1)], [], ((zua (zua ar 26 b26) 26 (zup b26 (l4.toNatClampNeg) l8)), fi, (m1, m2, m3, m4, m5)))))
    else
     some (.inr (some (.int 0), ((zua ar 26 b26), fi, (m1, m2, m3, m4, m5)))) : Option ((Nat × List Value × List Value × zH2) ⊕ zO2)) := by with_unfolding_all rfl
set_option maxRecDepth 1000000 in
theorem t9c98_lw_run_23_50 {X : Nat × (Nat → Int32)} {ar fi : Nat → Nat → Int32} {m1 m2 m3 m4 m5 : Nat} {x y : Int32} {l4 : Int32} {l5 : Int32} {l6 : Int32} {l7 : Int32} {l8 : Int32} {b26 : Nat → Int32} {G_lw_reckon : Int32 → Int32 → Int32 → Bool} {W_lw_reckon : Int32 → Int32 → Int32 → Int32} : zseg X zFT (zEx 47 (P_lw_reckon G_lw_reckon W_lw_reckon) zE0) zc_46 (fun p => Nat.beq p 9 || Nat.beq p 49 || Nat.beq p 98 || Nat.beq p 191 || Nat.beq p 215) 400 98 [.ref 23, .int x, .int y, .ref 50, .int l4, .int l5, .int l6, .int l7, .int l8] [] ((zua ar 26 b26), fi, (m1, m2, m3, m4, m5)) = (
  bif decide (1 ≤ l4) then
   bif !decide (l7 = 3) then
    bif decide (l7 = 4) then
     zg (Nat.beq 16 16 && (zin (l4 - 1) 32)) (
     bif decide (b26 ((l4 - 1).toNatClampNeg) = 0) then
      bif !decide (l7 = 5) then
       some (.inl (9, [.ref 23, .int x, .int y, .ref 50, .int l4, .int l8, .int (l6 + 1)], [], ((zua ar 26 b26), fi, (m1, m2, m3, m4, m5))))
      else
       some (.inl (9, [.ref 23, .int x, .int y, .ref 50, .int (l4 + (-1)), .int l5, .int (l6 + 1)], [], ((zua ar 26 b26), fi, (m1, m2, m3, m4, m5))))
     else
      bif !decide (l7 = 5) then
       some (.inl (9, [.ref 23, .int x, .int y, .ref 50, .int (l4 + (-1)), .int l5, .int (l6 + 1)], [], ((zua ar 26 b26), fi, (m1, m2, m3, m4, m5))))
      else
       some (.inl (9, [.ref 23, .int x, .int y, .ref 50, .int l4, .int l8, .int (l6 + 1)], [], ((zua ar 26 b26), fi, (m1, m2, m3, m4, m5)))))
    else
     bif !decide (l7 = 5) then
      some (.inl (191, [.ref 23, .int x, .int y, .ref 50, .int l4, .int l5, .int l6, .int l7, .int l8], [], ((zua ar 26 b26), fi, (m1, m2, m3, m4, m5))))
     else
      zg (Nat.beq 16 16 && (zin (l4 - 1) 32)) (
      bif decide (b26 ((l4 - 1).toNatClampNeg) = 0) then
       bif !decide (l7 = 5) then
        some (.inl (9, [.ref 23, .int x, .int y, .ref 50, .int l4, .int l8, .int (l6 + 1)], [], ((zua ar 26 b26), fi, (m1, m2, m3, m4, m5))))
       else
        some (.inl (9, [.ref 23, .int x, .int y, .ref 50, .int (l4 + (-1)), .int l5, .int (l6 + 1)], [], ((zua ar 26 b26), fi, (m1, m2, m3, m4, m5))))
      else
       bif !decide (l7 = 5) then
        some (.inl (9, [.ref 23, .int x, .int y, .ref 50, .int (l4 + (-1)), .int l5, .int (l6 + 1)], [], ((zua ar 26 b26), fi, (m1, m2, m3, m4, m5))))
       else
        some (.inl (9, [.ref 23, .int x, .int y, .ref 50, .int l4, .int l8, .int (l6 + 1)], [], ((zua ar 26 b26), fi, (m1, m2, m3, m4, m5)))))
   else
    zg (Nat.beq 16 16 && (zin (l4 - 1) 32)) (
    zg (Nat.beq 16 16 && (zin (l4 - 1) 32)) (
    some (.inl (9, [.ref 23, .int x, .int y, .ref 50, .int l4, .int l5, .int (l6 + 1)], [], ((zua (zua ar 26 b26) 26 (zup b26 ((l4 - 1).toNatClampNeg) (1 - (b26 ((l4 - 1).toNatClampNeg))))), fi, (m1, m2, m3, m4, m5))))))
  else
   some (.inr (some (.int 0), ((zua ar 26 b26), fi, (m1, m2, m3, m4, m5)))) : Option ((Nat × List Value × List Value × zH2) ⊕ zO2)) := by with_unfolding_all rfl
set_option maxRecDepth 1000000 in
theorem t9c191_lw_run_23_50 {X : Nat × (Nat → Int32)} {ar fi : Nat → Nat → Int32} {m1 m2 m3 m4 m5 : Nat} {x y : Int32} {l4 : Int32} {l5 : Int32} {l6 : Int32} {l7 : Int32} {l8 : Int32} {b26 : Nat → Int32} {G_lw_reckon : Int32 → Int32 → Int32 → Bool} {W_lw_reckon : Int32 → Int32 → Int32 → Int32} : zseg X zFT (zEx 47 (P_lw_reckon G_lw_reckon W_lw_reckon) zE0) zc_46 (fun p => Nat.beq p 9 || Nat.beq p 49 || Nat.beq p 98 || Nat.beq p 191 || Nat.beq p 215) 400 191 [.ref 23, .int x, .int y, .ref 50, .int l4, .int l5, .int l6, .int l7, .int l8] [] ((zua ar 26 b26), fi, (m1, m2, m3, m4, m5)) = (
  bif decide (l7 = 47) then
   some (.inl (215, [.ref 23, .int x, .int y, .ref 50, .int (l4 + (-1)), .int l5, .int l6, .int l7, .int l8, .int 1], [], ((zua ar 26 b26), fi, (m1, m2, m3, m4, m5))))
  else
   bif !decide (l7 = 37) then
    some (.inl (215, [.ref 23, .int x, .int y, .ref 50, .int (l4 + (-1)), .int l5, .int l6, .int l7, .int l8, .int 0], [], ((zua ar 26 b26), fi, (m1, m2, m3, m4, m5))))
   else
    some (.inl (215, [.ref 23, .int x, .int y, .ref 50, .int (l4 + (-1)), .int l5, .int l6, .int l7, .int l8, .int 1], [], ((zua ar 26 b26), fi, (m1, m2, m3, m4, m5)))) : Option ((Nat × List Value × List Value × zH2) ⊕ zO2)) := by with_unfolding_all rfl
set_option maxRecDepth 1000000 in
theorem t9c215_lw_run_23_50 {X : Nat × (Nat → Int32)} {ar fi : Nat → Nat → Int32} {m1 m2 m3 m4 m5 : Nat} {x y : Int32} {l4 : Int32} {l5 : Int32} {l6 : Int32} {l7 : Int32} {l8 : Int32} {l9 : Int32} {b26 : Nat → Int32} {G_lw_reckon : Int32 → Int32 → Int32 → Bool} {W_lw_reckon : Int32 → Int32 → Int32 → Int32} : zseg X zFT (zEx 47 (P_lw_reckon G_lw_reckon W_lw_reckon) zE0) zc_46 (fun p => Nat.beq p 9 || Nat.beq p 49 || Nat.beq p 98 || Nat.beq p 191 || Nat.beq p 215) 400 215 [.ref 23, .int x, .int y, .ref 50, .int l4, .int l5, .int l6, .int l7, .int l8, .int l9] [] ((zua ar 26 b26), fi, (m1, m2, m3, m4, m5)) = (
  bif decide (l4 < 1) then
   some (.inr (some (.int 0), ((zua ar 26 b26), fi, (m1, m2, m3, m4, m5))))
  else
   bif decide (l9 = 0) then
    zg (Nat.beq 16 16 && (zin (l4 - 1) 32)) (
    zg (Nat.beq 16 16 && (zin l4 32)) (
    zg (G_lw_reckon l7 (b26 ((l4 - 1).toNatClampNeg)) (b26 (l4.toNatClampNeg))) (
    zl (W_lw_reckon l7 (b26 ((l4 - 1).toNatClampNeg)) (b26 (l4.toNatClampNeg))) (fun v4 =>
    zg (Nat.beq 16 16 && (zin (l4 - 1) 32)) (
    some (.inl (9, [.ref 23, .int x, .int y, .ref 50, .int l4, .int l5, .int (l6 + 1)], [], ((zua (zua ar 26 b26) 26 (zup b26 ((l4 - 1).toNatClampNeg) v4)), fi, (m1, m2, m3, m4, m5)))))))))
   else
    zg (Nat.beq 16 16 && (zin l4 32)) (
    bif !decide (b26 (l4.toNatClampNeg) = 0) then
     zg (Nat.beq 16 16 && (zin (l4 - 1) 32)) (
     zg (Nat.beq 16 16 && (zin l4 32)) (
     zg (G_lw_reckon l7 (b26 ((l4 - 1).toNatClampNeg)) (b26 (l4.toNatClampNeg))) (
     zl (W_lw_reckon l7 (b26 ((l4 - 1).toNatClampNeg)) (b26 (l4.toNatClampNeg))) (fun v5 =>
     zg (Nat.beq 16 16 && (zin (l4 - 1) 32)) (
     some (.inl (9, [.ref 23, .int x, .int y, .ref 50, .int l4, .int l5, .int (l6 + 1)], [], ((zua (zua ar 26 b26) 26 (zup b26 ((l4 - 1).toNatClampNeg) v5)), fi, (m1, m2, m3, m4, m5)))))))))
    else
     some (.inr (some (.int 0), ((zua ar 26 b26), fi, (m1, m2, m3, m4, m5))))) : Option ((Nat × List Value × List Value × zH2) ⊕ zO2)) := by with_unfolding_all rfl
set_option maxRecDepth 20000 in
theorem k_lw_run_9_23_50 {X : Nat × (Nat → Int32)} {ar fi : Nat → Nat → Int32} {m1 m2 m3 m4 m5 : Nat} {x y : Int32} {o : zO2} : ∀ (s : U_lw_run_9) (q : U_lw_run_9 ⊕ T_lw_run), f_lw_run_9 y (ar 24) (ar 25) (ar 50) s = some q → zq (M_lw_run_9_23_50 X (zEx 47 S_lw_reckon zE0) ar fi m1 m2 m3 m4 m5 x y o) (fun t => O_lw_run_23_50 ar fi m1 m2 m3 m4 m5 t = o) q → M_lw_run_9_23_50 X (zEx 47 S_lw_reckon zE0) ar fi m1 m2 m3 m4 m5 x y o s := by
  intro s q h hq
  obtain ⟨l4, l5, l6, b26⟩ := s
  have h : b_lw_run_9 y (ar 24) (ar 25) (ar 50) l4 l5 l6 b26 = some q := h
  unfold b_lw_run_9 at h
  show zR2 X zFT (zEx 47 S_lw_reckon zE0) zc_46 9 [.ref 23, .int x, .int y, .ref 50, .int l4, .int l5, .int l6] [] ((zua ar 26 b26), fi, (m1, m2, m3, m4, m5)) o
  refine zT_seg t9_lw_run_23_50 ?_
  obtain ⟨TT, hTT⟩ : ∃ T, T = zT X zFT (zEx 47 S_lw_reckon zE0) zc_46 o := ⟨_, rfl⟩
  rw [← hTT]
  refine zb_el h (fun hb h => zU_t hTT hb ?_) (fun hb h => zU_f hTT hb ?_)
  · refine zb_el h (fun hb h => zU_t hTT hb ?_) (fun hb h => zU_f hTT hb ?_)
    · refine zg_el h (fun hg h => zU_ga hTT hg ?_)
      rw [hTT]
      have hz := zsi h hq
      refine (zO_mk ?_ ?_).trans hz
      · first | with_reducible rfl | exact hA0_lw_run _ _
      · first | with_reducible rfl | rfl
    · rw [hTT]
      have hz := zsi h hq
      refine (zO_mk ?_ ?_).trans hz
      · first | with_reducible rfl | exact hA0_lw_run _ _
      · first | with_reducible rfl | rfl
  · refine zb_el h (fun hb h => zU_t hTT hb ?_) (fun hb h => zU_f hTT hb ?_)
    · refine zb_el h (fun hb h => zU_t hTT hb ?_) (fun hb h => zU_f hTT hb ?_)
      · refine zg_el h (fun hg h => zU_ga hTT hg ?_)
        rw [hTT]
        have hz := zsi h hq
        refine (zO_mk ?_ ?_).trans hz
        · first | with_reducible rfl | exact hA0_lw_run _ _
        · first | with_reducible rfl | rfl
      · rw [hTT]
        have hz := zsi h hq
        refine (zO_mk ?_ ?_).trans hz
        · first | with_reducible rfl | exact hA0_lw_run _ _
        · first | with_reducible rfl | rfl
    · refine zb_el h (fun hb h => zU_t hTT hb ?_) (fun hb h => zU_f hTT hb ?_)
      · refine zb_el h (fun hb h => zU_t hTT hb ?_) (fun hb h => zU_f hTT hb ?_)
        · refine zg_el h (fun hg h => zU_ga hTT hg ?_)
          rw [hTT]
          have hz := zsi h hq
          refine (zO_mk ?_ ?_).trans hz
          · first | with_reducible rfl | exact hA0_lw_run _ _
          · first | with_reducible rfl | rfl
        · rw [hTT]
          have hz := zsi h hq
          refine (zO_mk ?_ ?_).trans hz
          · first | with_reducible rfl | exact hA0_lw_run _ _
          · first | with_reducible rfl | rfl
      · refine zg_el h (fun hg h => zU_ga hTT hg ?_)
        refine zg_el h (fun hg h => zU_ga hTT hg ?_)
        rw [hTT]
        refine zT_seg t9c49_lw_run_23_50 ?_
        rw [← hTT]
        refine zb_el h (fun hb h => zU_t hTT hb ?_) (fun hb h => zU_f hTT hb ?_)
        · refine zb_el h (fun hb h => zU_t hTT hb ?_) (fun hb h => zU_f hTT hb ?_)
          · refine zb_el h (fun hb h => zU_t hTT hb ?_) (fun hb h => zU_f hTT hb ?_)
            · refine zg_el h (fun hg h => zU_ga hTT hg ?_)
              refine zg_el h (fun hg h => zU_ga hTT hg ?_)
              rw [hTT]
              have hz := zsi h hq
              refine zR2_hp ?_ ?_ hz
              · first | with_reducible rfl | exact hA1_lw_run _ _ _
              · first | with_reducible rfl | rfl
            · refine zg_el h (fun hg h => zU_ga hTT hg ?_)
              rw [hTT]
              have hz := zsi h hq
              refine zR2_hp ?_ ?_ hz
              · first | with_reducible rfl | exact hA1_lw_run _ _ _
              · first | with_reducible rfl | rfl
          · rw [hTT]
            have hz := zsi h hq
            refine (zO_mk ?_ ?_).trans hz
            · first | with_reducible rfl | exact hA0_lw_run _ _
            · first | with_reducible rfl | rfl
        · refine zb_el h (fun hb h => zU_t hTT hb ?_) (fun hb h => zU_f hTT hb ?_)
          · rw [hTT]
            refine zT_seg t9c98_lw_run_23_50 ?_
            rw [← hTT]
            refine zb_el h (fun hb h => zU_t hTT hb ?_) (fun hb h => zU_f hTT hb ?_)
            · refine zb_el h (fun hb h => zU_t hTT hb ?_) (fun hb h => zU_f hTT hb ?_)
              · refine zb_el h (fun hb h => zU_t hTT hb ?_) (fun hb h => zU_f hTT hb ?_)
                · refine zg_el h (fun hg h => zU_ga hTT hg ?_)
                  refine zb_el h (fun hb h => zU_t hTT hb ?_) (fun hb h => zU_f hTT hb ?_)
                  · refine zb_el h (fun hb h => zU_t hTT hb ?_) (fun hb h => zU_f hTT hb ?_)
                    · rw [hTT]
                      have hz := zsi h hq
                      refine zR2_hp ?_ ?_ hz
                      · first | with_reducible rfl | exact hA0_lw_run _ _
                      · first | with_reducible rfl | rfl
                    · rw [hTT]
                      have hz := zsi h hq
                      refine zR2_hp ?_ ?_ hz
                      · first | with_reducible rfl | exact hA0_lw_run _ _
                      · first | with_reducible rfl | rfl
                  · refine zb_el h (fun hb h => zU_t hTT hb ?_) (fun hb h => zU_f hTT hb ?_)
                    · rw [hTT]
                      have hz := zsi h hq
                      refine zR2_hp ?_ ?_ hz
                      · first | with_reducible rfl | exact hA0_lw_run _ _
                      · first | with_reducible rfl | rfl
                    · rw [hTT]
                      have hz := zsi h hq
                      refine zR2_hp ?_ ?_ hz
                      · first | with_reducible rfl | exact hA0_lw_run _ _
                      · first | with_reducible rfl | rfl
                · refine zb_el h (fun hb h => zU_t hTT hb ?_) (fun hb h => zU_f hTT hb ?_)
                  · rw [hTT]
                    refine zT_seg t9c191_lw_run_23_50 ?_
                    rw [← hTT]
                    refine zb_el h (fun hb h => zU_t hTT hb ?_) (fun hb h => zU_f hTT hb ?_)
                    · obtain ⟨wz, hwz⟩ : ∃ z, z = l4 + (-1) := ⟨_, rfl⟩
                      rw [← hwz] at h ⊢
                      rw [hTT]
                      refine zT_seg t9c215_lw_run_23_50 ?_
                      rw [← hTT]
                      refine zb_el h (fun hb h => zU_t hTT hb ?_) (fun hb h => zU_f hTT hb ?_)
                      · rw [hTT]
                        have hz := zsi h hq
                        refine (zO_mk ?_ ?_).trans hz
                        · first | with_reducible rfl | exact hA0_lw_run _ _
                        · first | with_reducible rfl | rfl
                      · refine zU_f hTT rfl ?_
                        refine zg_el h (fun hg h => zU_ga hTT hg ?_)
                        refine zb_el h (fun hb h => zU_t hTT hb ?_) (fun hb h => zU_f hTT hb ?_)
                        · refine zg_el h (fun hg h => zU_ga hTT hg ?_)
                          refine zg_el h (fun hg h => zU_ga hTT hg ?_)
                          refine zg_el h (fun hg h => zU_g hTT hg ?_)
                          refine zl_el h (fun h => zU_l hTT ?_)
                          refine zg_el h (fun hg h => zU_ga hTT hg ?_)
                          rw [hTT]
                          have hz := zsi h hq
                          refine zR2_hp ?_ ?_ hz
                          · first | with_reducible rfl | exact hA1_lw_run _ _ _
                          · first | with_reducible rfl | rfl
                        · rw [hTT]
                          have hz := zsi h hq
                          refine (zO_mk ?_ ?_).trans hz
                          · first | with_reducible rfl | exact hA0_lw_run _ _
                          · first | with_reducible rfl | rfl
                    · refine zb_el h (fun hb h => zU_t hTT hb ?_) (fun hb h => zU_f hTT hb ?_)
                      · obtain ⟨wz, hwz⟩ : ∃ z, z = l4 + (-1) := ⟨_, rfl⟩
                        rw [← hwz] at h ⊢
                        rw [hTT]
                        refine zT_seg t9c215_lw_run_23_50 ?_
                        rw [← hTT]
                        refine zb_el h (fun hb h => zU_t hTT hb ?_) (fun hb h => zU_f hTT hb ?_)
                        · rw [hTT]
                          have hz := zsi h hq
                          refine (zO_mk ?_ ?_).trans hz
                          · first | with_reducible rfl | exact hA0_lw_run _ _
                          · first | with_reducible rfl | rfl
                        · refine zU_t hTT rfl ?_
                          refine zg_el h (fun hg h => zU_ga hTT hg ?_)
                          refine zg_el h (fun hg h => zU_ga hTT hg ?_)
                          refine zg_el h (fun hg h => zU_g hTT hg ?_)
                          refine zl_el h (fun h => zU_l hTT ?_)
                          refine zg_el h (fun hg h => zU_ga hTT hg ?_)
                          rw [hTT]
                          have hz := zsi h hq
                          refine zR2_hp ?_ ?_ hz
                          · first | with_reducible rfl | exact hA1_lw_run _ _ _
                          · first | with_reducible rfl | rfl
                      · obtain ⟨wz, hwz⟩ : ∃ z, z = l4 + (-1) := ⟨_, rfl⟩
                        rw [← hwz] at h ⊢
                        rw [hTT]
                        refine zT_seg t9c215_lw_run_23_50 ?_
                        rw [← hTT]
                        refine zb_el h (fun hb h => zU_t hTT hb ?_) (fun hb h => zU_f hTT hb ?_)
                        · rw [hTT]
                          have hz := zsi h hq
                          refine (zO_mk ?_ ?_).trans hz
                          · first | with_reducible rfl | exact hA0_lw_run _ _
                          · first | with_reducible rfl | rfl
                        · refine zU_f hTT rfl ?_
                          refine zg_el h (fun hg h => zU_ga hTT hg ?_)
                          refine zb_el h (fun hb h => zU_t hTT hb ?_) (fun hb h => zU_f hTT hb ?_)
                          · refine zg_el h (fun hg h => zU_ga hTT hg ?_)
                            refine zg_el h (fun hg h => zU_ga hTT hg ?_)
                            refine zg_el h (fun hg h => zU_g hTT hg ?_)
                            refine zl_el h (fun h => zU_l hTT ?_)
                            refine zg_el h (fun hg h => zU_ga hTT hg ?_)
                            rw [hTT]
                            have hz := zsi h hq
                            refine zR2_hp ?_ ?_ hz
                            · first | with_reducible rfl | exact hA1_lw_run _ _ _
                            · first | with_reducible rfl | rfl
                          · rw [hTT]
                            have hz := zsi h hq
                            refine (zO_mk ?_ ?_).trans hz
                            · first | with_reducible rfl | exact hA0_lw_run _ _
                            · first | with_reducible rfl | rfl
                  · refine zg_el h (fun hg h => zU_ga hTT hg ?_)
                    refine zb_el h (fun hb h => zU_t hTT hb ?_) (fun hb h => zU_f hTT hb ?_)
                    · refine zb_el h (fun hb h => zU_t hTT hb ?_) (fun hb h => zU_f hTT hb ?_)
                      · rw [hTT]
                        have hz := zsi h hq
                        refine zR2_hp ?_ ?_ hz
                        · first | with_reducible rfl | exact hA0_lw_run _ _
                        · first | with_reducible rfl | rfl
                      · rw [hTT]
                        have hz := zsi h hq
                        refine zR2_hp ?_ ?_ hz
                        · first | with_reducible rfl | exact hA0_lw_run _ _
                        · first | with_reducible rfl | rfl
                    · refine zb_el h (fun hb h => zU_t hTT hb ?_) (fun hb h => zU_f hTT hb ?_)
                      · rw [hTT]
                        have hz := zsi h hq
                        refine zR2_hp ?_ ?_ hz
                        · first | with_reducible rfl | exact hA0_lw_run _ _
                        · first | with_reducible rfl | rfl
                      · rw [hTT]
                        have hz := zsi h hq
                        refine zR2_hp ?_ ?_ hz
                        · first | with_reducible rfl | exact hA0_lw_run _ _
                        · first | with_reducible rfl | rfl
              · refine zg_el h (fun hg h => zU_ga hTT hg ?_)
                refine zg_el h (fun hg h => zU_ga hTT hg ?_)
                rw [hTT]
                have hz := zsi h hq
                refine zR2_hp ?_ ?_ hz
                · first | with_reducible rfl | exact hA1_lw_run _ _ _
                · first | with_reducible rfl | rfl
            · rw [hTT]
              have hz := zsi h hq
              refine (zO_mk ?_ ?_).trans hz
              · first | with_reducible rfl | exact hA0_lw_run _ _
              · first | with_reducible rfl | rfl
          · refine zb_el h (fun hb h => zU_t hTT hb ?_) (fun hb h => zU_f hTT hb ?_)
            · refine zb_el h (fun hb h => zU_t hTT hb ?_) (fun hb h => zU_f hTT hb ?_)
              · refine zg_el h (fun hg h => zU_ga hTT hg ?_)
                refine zg_el h (fun hg h => zU_ga hTT hg ?_)
                rw [hTT]
                have hz := zsi h hq
                refine zR2_hp ?_ ?_ hz
                · first | with_reducible rfl | exact hA1_lw_run _ _ _
                · first | with_reducible rfl | rfl
              · refine zg_el h (fun hg h => zU_ga hTT hg ?_)
                rw [hTT]
                have hz := zsi h hq
                refine zR2_hp ?_ ?_ hz
                · first | with_reducible rfl | exact hA1_lw_run _ _ _
                · first | with_reducible rfl | rfl
            · rw [hTT]
              have hz := zsi h hq
              refine (zO_mk ?_ ?_).trans hz
              · first | with_reducible rfl | exact hA0_lw_run _ _
              · first | with_reducible rfl | rfl
set_option maxRecDepth 1000000 in
theorem t_lw_run_23_50 {X : Nat × (Nat → Int32)} {ar fi : Nat → Nat → Int32} {m1 m2 m3 m4 m5 : Nat} {x y : Int32} {G_lw_reckon : Int32 → Int32 → Int32 → Bool} {W_lw_reckon : Int32 → Int32 → Int32 → Int32} : zseg X zFT (zEx 47 (P_lw_reckon G_lw_reckon W_lw_reckon) zE0) zc_46 (fun p => Nat.beq p 9 || Nat.beq p 49 || Nat.beq p 98 || Nat.beq p 191 || Nat.beq p 215) 400 0 [.ref 23, .int x, .int y, .ref 50] [] (ar, fi, (m1, m2, m3, m4, m5)) = (
  some (.inl (9, [.ref 23, .int x, .int y, .ref 50, .int 0, .int x, .int 0], [], (ar, fi, (m1, m2, m3, m4, m5)))) : Option ((Nat × List Value × List Value × zH2) ⊕ zO2)) := by with_unfolding_all rfl
set_option maxRecDepth 20000 in
theorem e_lw_run_23_50 {X : Nat × (Nat → Int32)} {ar fi : Nat → Nat → Int32} {m1 m2 m3 m4 m5 : Nat} {x y : Int32} {o : zO2} : ∀ (q : T_lw_run), q_lw_run x y (ar 24) (ar 25) (ar 26) (ar 50) = some q → (fun t => O_lw_run_23_50 ar fi m1 m2 m3 m4 m5 t = o) q → zR2 X zFT (zEx 47 S_lw_reckon zE0) zc_46 0 [.ref 23, .int x, .int y, .ref 50] [] (ar, fi, (m1, m2, m3, m4, m5)) o := by
  intro q h hq
  unfold q_lw_run at h
  refine zT_seg t_lw_run_23_50 ?_
  obtain ⟨TT, hTT⟩ : ∃ T, T = zT X zFT (zEx 47 S_lw_reckon zE0) zc_46 o := ⟨_, rfl⟩
  rw [← hTT]
  rw [hTT]
  refine zR2_hp ?_ ?_ (zlp_K k_lw_run_9_23_50 h hq)
  · first | with_reducible rfl | exact hA2_lw_run _
  · first | with_reducible rfl | rfl
def O_lw_run_31_50 (ar fi : Nat → Nat → Int32) (m1 : Nat) (m2 : Nat) (m3 : Nat) (m4 : Nat) (m5 : Nat) (t : T_lw_run) : zO2 := match t with
  | (t0, t1) => (some (.int (t0)), ((zua ar 34 t1), fi, (m1, m2, m3, m4, m5)))
def M_lw_run_9_31_50 (X : Nat × (Nat → Int32)) (E : zTE) (ar fi : Nat → Nat → Int32) (m1 : Nat) (m2 : Nat) (m3 : Nat) (m4 : Nat) (m5 : Nat) (x : Int32) (y : Int32) (o : zO2) (s : U_lw_run_9) : Prop := match s with
  | (l4, l5, l6, b34) => zR2 X zFT E zc_46 9 [.ref 31, .int x, .int y, .ref 50, .int l4, .int l5, .int l6] [] ((zua ar 34 b34), fi, (m1, m2, m3, m4, m5)) o
set_option maxRecDepth 1000000 in
theorem t9_lw_run_31_50 {X : Nat × (Nat → Int32)} {ar fi : Nat → Nat → Int32} {m1 m2 m3 m4 m5 : Nat} {x y : Int32} {l4 : Int32} {l5 : Int32} {l6 : Int32} {b34 : Nat → Int32} {G_lw_reckon : Int32 → Int32 → Int32 → Bool} {W_lw_reckon : Int32 → Int32 → Int32 → Int32} : zseg X zFT (zEx 47 (P_lw_reckon G_lw_reckon W_lw_reckon) zE0) zc_46 (fun p => Nat.beq p 9 || Nat.beq p 49 || Nat.beq p 98 || Nat.beq p 191 || Nat.beq p 215) 400 9 [.ref 31, .int x, .int y, .ref 50, .int l4, .int l5, .int l6] [] ((zua ar 34 b34), fi, (m1, m2, m3, m4, m5)) = (
  bif decide (240 ≤ l6) then
   bif decide (1 ≤ l4) then
    zg (Nat.beq 16 16 && (zin (l4 - 1) 32)) (
    some (.inr (some (.int (b34 ((l4 - 1).toNatClampNeg))), ((zua ar 34 b34), fi, (m1, m2, m3, m4, m5)))))
   else
    some (.inr (some (.int 0), ((zua ar 34 b34), fi, (m1, m2, m3, m4, m5))))
  else
   bif decide (l5 < 0) then
    bif decide (1 ≤ l4) then
     zg (Nat.beq 16 16 && (zin (l4 - 1) 32)) (
     some (.inr (some (.int (b34 ((l4 - 1).toNatClampNeg))), ((zua ar 34 b34), fi, (m1, m2, m3, m4, m5)))))
    else
     some (.inr (some (.int 0), ((zua ar 34 b34), fi, (m1, m2, m3, m4, m5))))
   else
    bif decide (y ≤ l5) then
     bif decide (1 ≤ l4) then
      zg (Nat.beq 16 16 && (zin (l4 - 1) 32)) (
      some (.inr (some (.int (b34 ((l4 - 1).toNatClampNeg))), ((zua ar 34 b34), fi, (m1, m2, m3, m4, m5)))))
     else
      some (.inr (some (.int 0), ((zua ar 34 b34), fi, (m1, m2, m3, m4, m5))))
    else
     zg (Nat.beq 16 16 && (zin l5 240)) (
     zg (Nat.beq 16 16 && (zin l5 240)) (
     some (.inl (49, [.ref 31, .int x, .int y, .ref 50, .int l4, .int (l5 + 1), .int l6, .int ((ar 32) (l5.toNatClampNeg)), .int ((ar 33) (l5.toNatClampNeg))], [], ((zua ar 34 b34), fi, (m1, m2, m3, m4, m5)))))) : Option ((Nat × List Value × List Value × zH2) ⊕ zO2)) := by with_unfolding_all rfl
set_option maxRecDepth 1000000 in
theorem t9c49_lw_run_31_50 {X : Nat × (Nat → Int32)} {ar fi : Nat → Nat → Int32} {m1 m2 m3 m4 m5 : Nat} {x y : Int32} {l4 : Int32} {l5 : Int32} {l6 : Int32} {l7 : Int32} {l8 : Int32} {b34 : Nat → Int32} {G_lw_reckon : Int32 → Int32 → Int32 → Bool} {W_lw_reckon : Int32 → Int32 → Int32 → Int32} : zseg X zFT (zEx 47 (P_lw_reckon G_lw_reckon W_lw_reckon) zE0) zc_46 (fun p => Nat.beq p 9 || Nat.beq p 49 || Nat.beq p 98 || Nat.beq p 191 || Nat.beq p 215) 400 49 [.ref 31, .int x, .int y, .ref 50, .int l4, .int l5, .int l6, .int l7, .int l8] [] ((zua ar 34 b34), fi, (m1, m2, m3, m4, m5)) = (
  bif decide (l7 = 1) then
   bif decide (l4 < 32) then
    bif !decide (l7 = 1) then
     zg (Nat.beq 16 16 && (zin l8 9)) (
     zg (Nat.beq 16 16 && (zin l4 32)) (
     some (.inl (9, [.ref 31, .int x, .int y, .ref 50, .int (l4 + 1), .int l5, .int (l6 + 1)], [], ((zua (zua ar 34 b34) 34 (zup b34 (l4.toNatClampNeg) ((ar 50) (l8.toNatClampNeg)))), fi, (m1, m2, m3, m4, m5))))))
    else
     zg (Nat.beq 16 16 && (zin l4 32)) (
     some (.inl (9, [.ref 31, .int x, .int y, .ref 50, .int (l4 + 1), .int l5, .int (l6 + 1)], [], ((zua (zua ar 34 b34) 34 (zup b34 (l4.toNatClampNeg) l8)), fi, (m1, m2, m3, m4, m5)))))
   else
    some (.inr (some (.int 0), ((zua ar 34 b34), fi, (m1, m2, m3, m4, m5))))
  else
   bif !decide (l7 = 2) then
    some (.inl (98, [.ref 31, .int x, .int y, .ref 50, .int l4, .int l5, .int l6, .int l7, .int l8], [], ((zua ar 34 b34), fi, (m1, m2, m3, m4, m5))))
   else
    bif decide (l4 < 32) then
     bif !decide (l7 = 1) then
      zg (Nat.beq 16 16 && (zin l8 9)) (
      zg (Nat.beq 16 16 && (zin l4 32)) (
      some (.inl (9, [.ref 31, .int x, .int y, .ref 50, .int (l4 + 1), .int l5, .int (l6 + 1)], [], ((zua (zua ar 34 b34) 34 (zup b34 (l4.toNatClampNeg) ((ar 50) (l8.toNatClampNeg)))), fi, (m1, m2, m3, m4, m5))))))
     else
      zg (Nat.beq 16 16 && (zin l4 32)) (
      some (.inl (9, [.ref 31, .int x, .int y, .ref 50, .int (l4 + 1), .int l5, .int (l6 + 1)], [], ((zua (zua ar 34 b34) 34 (zup b34 (l4.toNatClampNeg) l8)), fi, (m1, m2, m3, m4, m5)))))
    else
     some (.inr (some (.int 0), ((zua ar 34 b34), fi, (m1, m2, m3, m4, m5)))) : Option ((Nat × List Value × List Value × zH2) ⊕ zO2)) := by with_unfolding_all rfl
set_option maxRecDepth 1000000 in
theorem t9c98_lw_run_31_50 {X : Nat × (Nat → Int32)} {ar fi : Nat → Nat → Int32} {m1 m2 m3 m4 m5 : Nat} {x y : Int32} {l4 : Int32} {l5 : Int32} {l6 : Int32} {l7 : Int32} {l8 : Int32} {b34 : Nat → Int32} {G_lw_reckon : Int32 → Int32 → Int32 → Bool} {W_lw_reckon : Int32 → Int32 → Int32 → Int32} : zseg X zFT (zEx 47 (P_lw_reckon G_lw_reckon W_lw_reckon) zE0) zc_46 (fun p => Nat.beq p 9 || Nat.beq p 49 || Nat.beq p 98 || Nat.beq p 191 || Nat.beq p 215) 400 98 [.ref 31, .int x, .int y, .ref 50, .int l4, .int l5, .int l6, .int l7, .int l8] [] ((zua ar 34 b34), fi, (m1, m2, m3, m4, m5)) = (
  bif decide (1 ≤ l4) then
   bif !decide (l7 = 3) then
    bif decide (l7 = 4) then
     zg (Nat.beq 16 16 && (zin (l4 - 1) 32)) (
     bif decide (b34 ((l4 - 1).toNatClampNeg) = 0) then
      bif !decide (l7 = 5) then
       some (.inl (9, [.ref 31, .int x, .int y, .ref 50, .int l4, .int l8, .int (l6 + 1)], [], ((zua ar 34 b34), fi, (m1, m2, m3, m4, m5))))
      else
       some (.inl (9, [.ref 31, .int x, .int y, .ref 50, .int (l4 + (-1)), .int l5, .int (l6 + 1)], [], ((zua ar 34 b34), fi, (m1, m2, m3, m4, m5))))
     else
      bif !decide (l7 = 5) then
       some (.inl (9, [.ref 31, .int x, .int y, .ref 50, .int (l4 + (-1)), .int l5, .int (l6 + 1)], [], ((zua ar 34 b34), fi, (m1, m2, m3, m4, m5))))
      else
       some (.inl (9, [.ref 31, .int x, .int y, .ref 50, .int l4, .int l8, .int (l6 + 1)], [], ((zua ar 34 b34), fi, (m1, m2, m3, m4, m5)))))
    else
     bif !decide (l7 = 5) then
      some (.inl (191, [.ref 31, .int x, .int y, .ref 50, .int l4, .int l5, .int l6, .int l7, .int l8], [], ((zua ar 34 b34), fi, (m1, m2, m3, m4, m5))))
     else
      zg (Nat.beq 16 16 && (zin (l4 - 1) 32)) (
      bif decide (b34 ((l4 - 1).toNatClampNeg) = 0) then
       bif !decide (l7 = 5) then
        some (.inl (9, [.ref 31, .int x, .int y, .ref 50, .int l4, .int l8, .int (l6 + 1)], [], ((zua ar 34 b34), fi, (m1, m2, m3, m4, m5))))
       else
        some (.inl (9, [.ref 31, .int x, .int y, .ref 50, .int (l4 + (-1)), .int l5, .int (l6 + 1)], [], ((zua ar 34 b34), fi, (m1, m2, m3, m4, m5))))
      else
       bif !decide (l7 = 5) then
        some (.inl (9, [.ref 31, .int x, .int y, .ref 50, .int (l4 + (-1)), .int l5, .int (l6 + 1)], [], ((zua ar 34 b34), fi, (m1, m2, m3, m4, m5))))
       else
        some (.inl (9, [.ref 31, .int x, .int y, .ref 50, .int l4, .int l8, .int (l6 + 1)], [], ((zua ar 34 b34), fi, (m1, m2, m3, m4, m5)))))
   else
    zg (Nat.beq 16 16 && (zin (l4 - 1) 32)) (
    zg (Nat.beq 16 16 && (zin (l4 - 1) 32)) (
    some (.inl (9, [.ref 31, .int x, .int y, .ref 50, .int l4, .int l5, .int (l6 + 1)], [], ((zua (zua ar 34 b34) 34 (zup b34 ((l4 - 1).toNatClampNeg) (1 - (b34 ((l4 - 1).toNatClampNeg))))), fi, (m1, m2, m3, m4, m5))))))
  else
   some (.inr (some (.int 0), ((zua ar 34 b34), fi, (m1, m2, m3, m4, m5)))) : Option ((Nat × List Value × List Value × zH2) ⊕ zO2)) := by with_unfolding_all rfl
set_option maxRecDepth 1000000 in
theorem t9c191_lw_run_31_50 {X : Nat × (Nat → Int32)} {ar fi : Nat → Nat → Int32} {m1 m2 m3 m4 m5 : Nat} {x y : Int32} {l4 : Int32} {l5 : Int32} {l6 : Int32} {l7 : Int32} {l8 : Int32} {b34 : Nat → Int32} {G_lw_reckon : Int32 → Int32 → Int32 → Bool} {W_lw_reckon : Int32 → Int32 → Int32 → Int32} : zseg X zFT (zEx 47 (P_lw_reckon G_lw_reckon W_lw_reckon) zE0) zc_46 (fun p => Nat.beq p 9 || Nat.beq p 49 || Nat.beq p 98 || Nat.beq p 191 || Nat.beq p 215) 400 191 [.ref 31, .int x, .int y, .ref 50, .int l4, .int l5, .int l6, .int l7, .int l8] [] ((zua ar 34 b34), fi, (m1, m2, m3, m4, m5)) = (
  bif decide (l7 = 47) then
   some (.inl (215, [.ref 31, .int x, .int y, .ref 50, .int (l4 + (-1)), .int l5, .int l6, .int l7, .int l8, .int 1], [], ((zua ar 34 b34), fi, (m1, m2, m3, m4, m5))))
  else
   bif !decide (l7 = 37) then
    some (.inl (215, [.ref 31, .int x, .int y, .ref 50, .int (l4 + (-1)), .int l5, .int l6, .int l7, .int l8, .int 0], [], ((zua ar 34 b34), fi, (m1, m2, m3, m4, m5))))
   else
    some (.inl (215, [.ref 31, .int x, .int y, .ref 50, .int (l4 + (-1)), .int l5, .int l6, .int l7, .int l8, .int 1], [], ((zua ar 34 b34), fi, (m1, m2, m3, m4, m5)))) : Option ((Nat × List Value × List Value × zH2) ⊕ zO2)) := by with_unfolding_all rfl
set_option maxRecDepth 1000000 in
theorem t9c215_lw_run_31_50 {X : Nat × (Nat → Int32)} {ar fi : Nat → Nat → Int32} {m1 m2 m3 m4 m5 : Nat} {x y : Int32} {l4 : Int32} {l5 : Int32} {l6 : Int32} {l7 : Int32} {l8 : Int32} {l9 : Int32} {b34 : Nat → Int32} {G_lw_reckon : Int32 → Int32 → Int32 → Bool} {W_lw_reckon : Int32 → Int32 → Int32 → Int32} : zseg X zFT (zEx 47 (P_lw_reckon G_lw_reckon W_lw_reckon) zE0) zc_46 (fun p => Nat.beq p 9 || Nat.beq p 49 || Nat.beq p 98 || Nat.beq p 191 || Nat.beq p 215) 400 215 [.ref 31, .int x, .int y, .ref 50, .int l4, .int l5, .int l6, .int l7, .int l8, .int l9] [] ((zua ar 34 b34), fi, (m1, m2, m3, m4, m5)) = (
  bif decide (l4 < 1) then
   some (.inr (some (.int 0), ((zua ar 34 b34), fi, (m1, m2, m3, m4, m5))))
  else
   bif decide (l9 = 0) then
    zg (Nat.beq 16 16 && (zin (l4 - 1) 32)) (
    zg (Nat.beq 16 16 && (zin l4 32)) (
    zg (G_lw_reckon l7 (b34 ((l4 - 1).toNatClampNeg)) (b34 (l4.toNatClampNeg))) (
    zl (W_lw_reckon l7 (b34 ((l4 - 1).toNatClampNeg)) (b34 (l4.toNatClampNeg))) (fun v6 =>
    zg (Nat.beq 16 16 && (zin (l4 - 1) 32)) (
    some (.inl (9, [.ref 31, .int x, .int y, .ref 50, .int l4, .int l5, .int (l6 + 1)], [], ((zua (zua ar 34 b34) 34 (zup b34 ((l4 - 1).toNatClampNeg) v6)), fi, (m1, m2, m3, m4, m5)))))))))
   else
    zg (Nat.beq 16 16 && (zin l4 32)) (
    bif !decide (b34 (l4.toNatClampNeg) = 0) then
     zg (Nat.beq 16 16 && (zin (l4 - 1) 32)) (
     zg (Nat.beq 16 16 && (zin l4 32)) (
     zg (G_lw_reckon l7 (b34 ((l4 - 1).toNatClampNeg)) (b34 (l4.toNatClampNeg))) (
     zl (W_lw_reckon l7 (b34 ((l4 - 1).toNatClampNeg)) (b34 (l4.toNatClampNeg))) (fun v7 =>
     zg (Nat.beq 16 16 && (zin (l4 - 1) 32)) (
     some (.inl (9, [.ref 31, .int x, .int y, .ref 50, .int l4, .int l5, .int (l6 + 1)], [], ((zua (zua ar 34 b34) 34 (zup b34 ((l4 - 1).toNatClampNeg) v7)), fi, (m1, m2, m3, m4, m5)))))))))
    else
     some (.inr (some (.int 0), ((zua ar 34 b34), fi, (m1, m2, m3, m4, m5))))) : Option ((Nat × List Value × List Value × zH2) ⊕ zO2)) := by with_unfolding_all rfl
set_option maxRecDepth 20000 in
theorem k_lw_run_9_31_50 {X : Nat × (Nat → Int32)} {ar fi : Nat → Nat → Int32} {m1 m2 m3 m4 m5 : Nat} {x y : Int32} {o : zO2} : ∀ (s : U_lw_run_9) (q : U_lw_run_9 ⊕ T_lw_run), f_lw_run_9 y (ar 32) (ar 33) (ar 50) s = some q → zq (M_lw_run_9_31_50 X (zEx 47 S_lw_reckon zE0) ar fi m1 m2 m3 m4 m5 x y o) (fun t => O_lw_run_31_50 ar fi m1 m2 m3 m4 m5 t = o) q → M_lw_run_9_31_50 X (zEx 47 S_lw_reckon zE0) ar fi m1 m2 m3 m4 m5 x y o s := by
  intro s q h hq
  obtain ⟨l4, l5, l6, b34⟩ := s
  have h : b_lw_run_9 y (ar 32) (ar 33) (ar 50) l4 l5 l6 b34 = some q := h
  unfold b_lw_run_9 at h
  show zR2 X zFT (zEx 47 S_lw_reckon zE0) zc_46 9 [.ref 31, .int x, .int y, .ref 50, .int l4, .int l5, .int l6] [] ((zua ar 34 b34), fi, (m1, m2, m3, m4, m5)) o
  refine zT_seg t9_lw_run_31_50 ?_
  obtain ⟨TT, hTT⟩ : ∃ T, T = zT X zFT (zEx 47 S_lw_reckon zE0) zc_46 o := ⟨_, rfl⟩
  rw [← hTT]
  refine zb_el h (fun hb h => zU_t hTT hb ?_) (fun hb h => zU_f hTT hb ?_)
  · refine zb_el h (fun hb h => zU_t hTT hb ?_) (fun hb h => zU_f hTT hb ?_)
    · refine zg_el h (fun hg h => zU_ga hTT hg ?_)
      rw [hTT]
      have hz := zsi h hq
      refine (zO_mk ?_ ?_).trans hz
      · first | with_reducible rfl | exact hA3_lw_run _ _
      · first | with_reducible rfl | rfl
    · rw [hTT]
      have hz := zsi h hq
      refine (zO_mk ?_ ?_).trans hz
      · first | with_reducible rfl | exact hA3_lw_run _ _
      · first | with_reducible rfl | rfl
  · refine zb_el h (fun hb h => zU_t hTT hb ?_) (fun hb h => zU_f hTT hb ?_)
    · refine zb_el h (fun hb h => zU_t hTT hb ?_) (fun hb h => zU_f hTT hb ?_)
      · refine zg_el h (fun hg h => zU_ga hTT hg ?_)
        rw [hTT]
        have hz := zsi h hq
        refine (zO_mk ?_ ?_).trans hz
        · first | with_reducible rfl | exact hA3_lw_run _ _
        · first | with_reducible rfl | rfl
      · rw [hTT]
        have hz := zsi h hq
        refine (zO_mk ?_ ?_).trans hz
        · first | with_reducible rfl | exact hA3_lw_run _ _
        · first | with_reducible rfl | rfl
    · refine zb_el h (fun hb h => zU_t hTT hb ?_) (fun hb h => zU_f hTT hb ?_)
      · refine zb_el h (fun hb h => zU_t hTT hb ?_) (fun hb h => zU_f hTT hb ?_)
        · refine zg_el h (fun hg h => zU_ga hTT hg ?_)
          rw [hTT]
          have hz := zsi h hq
          refine (zO_mk ?_ ?_).trans hz
          · first | with_reducible rfl | exact hA3_lw_run _ _
          · first | with_reducible rfl | rfl
        · rw [hTT]
          have hz := zsi h hq
          refine (zO_mk ?_ ?_).trans hz
          · first | with_reducible rfl | exact hA3_lw_run _ _
          · first | with_reducible rfl | rfl
      · refine zg_el h (fun hg h => zU_ga hTT hg ?_)
        refine zg_el h (fun hg h => zU_ga hTT hg ?_)
        rw [hTT]
        refine zT_seg t9c49_lw_run_31_50 ?_
        rw [← hTT]
        refine zb_el h (fun hb h => zU_t hTT hb ?_) (fun hb h => zU_f hTT hb ?_)
        · refine zb_el h (fun hb h => zU_t hTT hb ?_) (fun hb h => zU_f hTT hb ?_)
          · refine zb_el h (fun hb h => zU_t hTT hb ?_) (fun hb h => zU_f hTT hb ?_)
            · refine zg_el h (fun hg h => zU_ga hTT hg ?_)
              refine zg_el h (fun hg h => zU_ga hTT hg ?_)
              rw [hTT]
              have hz := zsi h hq
              refine zR2_hp ?_ ?_ hz
              · first | with_reducible rfl | exact hA4_lw_run _ _ _
              · first | with_reducible rfl | rfl
            · refine zg_el h (fun hg h => zU_ga hTT hg ?_)
              rw [hTT]
              have hz := zsi h hq
              refine zR2_hp ?_ ?_ hz
              · first | with_reducible rfl | exact hA4_lw_run _ _ _
              · first | with_reducible rfl | rfl
          · rw [hTT]
            have hz := zsi h hq
            refine (zO_mk ?_ ?_).trans hz
            · first | with_reducible rfl | exact hA3_lw_run _ _
            · first | with_reducible rfl | rfl
        · refine zb_el h (fun hb h => zU_t hTT hb ?_) (fun hb h => zU_f hTT hb ?_)
          · rw [hTT]
            refine zT_seg t9c98_lw_run_31_50 ?_
            rw [← hTT]
            refine zb_el h (fun hb h => zU_t hTT hb ?_) (fun hb h => zU_f hTT hb ?_)
            · refine zb_el h (fun hb h => zU_t hTT hb ?_) (fun hb h => zU_f hTT hb ?_)
              · refine zb_el h (fun hb h => zU_t hTT hb ?_) (fun hb h => zU_f hTT hb ?_)
                · refine zg_el h (fun hg h => zU_ga hTT hg ?_)
                  refine zb_el h (fun hb h => zU_t hTT hb ?_) (fun hb h => zU_f hTT hb ?_)
                  · refine zb_el h (fun hb h => zU_t hTT hb ?_) (fun hb h => zU_f hTT hb ?_)
                    · rw [hTT]
                      have hz := zsi h hq
                      refine zR2_hp ?_ ?_ hz
                      · first | with_reducible rfl | exact hA3_lw_run _ _
                      · first | with_reducible rfl | rfl
                    · rw [hTT]
                      have hz := zsi h hq
                      refine zR2_hp ?_ ?_ hz
                      · first | with_reducible rfl | exact hA3_lw_run _ _
                      · first | with_reducible rfl | rfl
                  · refine zb_el h (fun hb h => zU_t hTT hb ?_) (fun hb h => zU_f hTT hb ?_)
                    · rw [hTT]
                      have hz := zsi h hq
                      refine zR2_hp ?_ ?_ hz
                      · first | with_reducible rfl | exact hA3_lw_run _ _
                      · first | with_reducible rfl | rfl
                    · rw [hTT]
                      have hz := zsi h hq
                      refine zR2_hp ?_ ?_ hz
                      · first | with_reducible rfl | exact hA3_lw_run _ _
                      · first | with_reducible rfl | rfl
                · refine zb_el h (fun hb h => zU_t hTT hb ?_) (fun hb h => zU_f hTT hb ?_)
                  · rw [hTT]
                    refine zT_seg t9c191_lw_run_31_50 ?_
                    rw [← hTT]
                    refine zb_el h (fun hb h => zU_t hTT hb ?_) (fun hb h => zU_f hTT hb ?_)
                    · obtain ⟨wz, hwz⟩ : ∃ z, z = l4 + (-1) := ⟨_, rfl⟩
                      rw [← hwz] at h ⊢
                      rw [hTT]
                      refine zT_seg t9c215_lw_run_31_50 ?_
                      rw [← hTT]
                      refine zb_el h (fun hb h => zU_t hTT hb ?_) (fun hb h => zU_f hTT hb ?_)
                      · rw [hTT]
                        have hz := zsi h hq
                        refine (zO_mk ?_ ?_).trans hz
                        · first | with_reducible rfl | exact hA3_lw_run _ _
                        · first | with_reducible rfl | rfl
                      · refine zU_f hTT rfl ?_
                        refine zg_el h (fun hg h => zU_ga hTT hg ?_)
                        refine zb_el h (fun hb h => zU_t hTT hb ?_) (fun hb h => zU_f hTT hb ?_)
                        · refine zg_el h (fun hg h => zU_ga hTT hg ?_)
                          refine zg_el h (fun hg h => zU_ga hTT hg ?_)
                          refine zg_el h (fun hg h => zU_g hTT hg ?_)
                          refine zl_el h (fun h => zU_l hTT ?_)
                          refine zg_el h (fun hg h => zU_ga hTT hg ?_)
                          rw [hTT]
                          have hz := zsi h hq
                          refine zR2_hp ?_ ?_ hz
                          · first | with_reducible rfl | exact hA4_lw_run _ _ _
                          · first | with_reducible rfl | rfl
                        · rw [hTT]
                          have hz := zsi h hq
                          refine (zO_mk ?_ ?_).trans hz
                          · first | with_reducible rfl | exact hA3_lw_run _ _
                          · first | with_reducible rfl | rfl
                    · refine zb_el h (fun hb h => zU_t hTT hb ?_) (fun hb h => zU_f hTT hb ?_)
                      · obtain ⟨wz, hwz⟩ : ∃ z, z = l4 + (-1) := ⟨_, rfl⟩
                        rw [← hwz] at h ⊢
                        rw [hTT]
                        refine zT_seg t9c215_lw_run_31_50 ?_
                        rw [← hTT]
                        refine zb_el h (fun hb h => zU_t hTT hb ?_) (fun hb h => zU_f hTT hb ?_)
                        · rw [hTT]
                          have hz := zsi h hq
                          refine (zO_mk ?_ ?_).trans hz
                          · first | with_reducible rfl | exact hA3_lw_run _ _
                          · first | with_reducible rfl | rfl
                        · refine zU_t hTT rfl ?_
                          refine zg_el h (fun hg h => zU_ga hTT hg ?_)
                          refine zg_el h (fun hg h => zU_ga hTT hg ?_)
                          refine zg_el h (fun hg h => zU_g hTT hg ?_)
                          refine zl_el h (fun h => zU_l hTT ?_)
                          refine zg_el h (fun hg h => zU_ga hTT hg ?_)
                          rw [hTT]
                          have hz := zsi h hq
                          refine zR2_hp ?_ ?_ hz
                          · first | with_reducible rfl | exact hA4_lw_run _ _ _
                          · first | with_reducible rfl | rfl
                      · obtain ⟨wz, hwz⟩ : ∃ z, z = l4 + (-1) := ⟨_, rfl⟩
                        rw [← hwz] at h ⊢
                        rw [hTT]
                        refine zT_seg t9c215_lw_run_31_50 ?_
                        rw [← hTT]
                        refine zb_el h (fun hb h => zU_t hTT hb ?_) (fun hb h => zU_f hTT hb ?_)
                        · rw [hTT]
                          have hz := zsi h hq
                          refine (zO_mk ?_ ?_).trans hz
                          · first | with_reducible rfl | exact hA3_lw_run _ _
                          · first | with_reducible rfl | rfl
                        · refine zU_f hTT rfl ?_
                          refine zg_el h (fun hg h => zU_ga hTT hg ?_)
                          refine zb_el h (fun hb h => zU_t hTT hb ?_) (fun hb h => zU_f hTT hb ?_)
                          · refine zg_el h (fun hg h => zU_ga hTT hg ?_)
                            refine zg_el h (fun hg h => zU_ga hTT hg ?_)
                            refine zg_el h (fun hg h => zU_g hTT hg ?_)
                            refine zl_el h (fun h => zU_l hTT ?_)
                            refine zg_el h (fun hg h => zU_ga hTT hg ?_)
                            rw [hTT]
                            have hz := zsi h hq
                            refine zR2_hp ?_ ?_ hz
                            · first | with_reducible rfl | exact hA4_lw_run _ _ _
                            · first | with_reducible rfl | rfl
                          · rw [hTT]
                            have hz := zsi h hq
                            refine (zO_mk ?_ ?_).trans hz
                            · first | with_reducible rfl | exact hA3_lw_run _ _
                            · first | with_reducible rfl | rfl
                  · refine zg_el h (fun hg h => zU_ga hTT hg ?_)
                    refine zb_el h (fun hb h => zU_t hTT hb ?_) (fun hb h => zU_f hTT hb ?_)
                    · refine zb_el h (fun hb h => zU_t hTT hb ?_) (fun hb h => zU_f hTT hb ?_)
                      · rw [hTT]
                        have hz := zsi h hq
                        refine zR2_hp ?_ ?_ hz
                        · first | with_reducible rfl | exact hA3_lw_run _ _
                        · first | with_reducible rfl | rfl
                      · rw [hTT]
                        have hz := zsi h hq
                        refine zR2_hp ?_ ?_ hz
                        · first | with_reducible rfl | exact hA3_lw_run _ _
                        · first | with_reducible rfl | rfl
                    · refine zb_el h (fun hb h => zU_t hTT hb ?_) (fun hb h => zU_f hTT hb ?_)
                      · rw [hTT]
                        have hz := zsi h hq
                        refine zR2_hp ?_ ?_ hz
                        · first | with_reducible rfl | exact hA3_lw_run _ _
                        · first | with_reducible rfl | rfl
                      · rw [hTT]
                        have hz := zsi h hq
                        refine zR2_hp ?_ ?_ hz
                        · first | with_reducible rfl | exact hA3_lw_run _ _
                        · first | with_reducible rfl | rfl
              · refine zg_el h (fun hg h => zU_ga hTT hg ?_)
                refine zg_el h (fun hg h => zU_ga hTT hg ?_)
                rw [hTT]
                have hz := zsi h hq
                refine zR2_hp ?_ ?_ hz
                · first | with_reducible rfl | exact hA4_lw_run _ _ _
                · first | with_reducible rfl | rfl
            · rw [hTT]
              have hz := zsi h hq
              refine (zO_mk ?_ ?_).trans hz
              · first | with_reducible rfl | exact hA3_lw_run _ _
              · first | with_reducible rfl | rfl
          · refine zb_el h (fun hb h => zU_t hTT hb ?_) (fun hb h => zU_f hTT hb ?_)
            · refine zb_el h (fun hb h => zU_t hTT hb ?_) (fun hb h => zU_f hTT hb ?_)
              · refine zg_el h (fun hg h => zU_ga hTT hg ?_)
                refine zg_el h (fun hg h => zU_ga hTT hg ?_)
                rw [hTT]
                have hz := zsi h hq
                refine zR2_hp ?_ ?_ hz
                · first | with_reducible rfl | exact hA4_lw_run _ _ _
                · first | with_reducible rfl | rfl
              · refine zg_el h (fun hg h => zU_ga hTT hg ?_)
                rw [hTT]
                have hz := zsi h hq
                refine zR2_hp ?_ ?_ hz
                · first | with_reducible rfl | exact hA4_lw_run _ _ _
                · first | with_reducible rfl | rfl
            · rw [hTT]
              have hz := zsi h hq
              refine (zO_mk ?_ ?_).trans hz
              · first | with_reducible rfl | exact hA3_lw_run _ _
              · first | with_reducible rfl | rfl
set_option maxRecDepth 1000000 in
theorem t_lw_run_31_50 {X : Nat × (Nat → Int32)} {ar fi : Nat → Nat → Int32} {m1 m2 m3 m4 m5 : Nat} {x y : Int32} {G_lw_reckon : Int32 → Int32 → Int32 → Bool} {W_lw_reckon : Int32 → Int32 → Int32 → Int32} : zseg X zFT (zEx 47 (P_lw_reckon G_lw_reckon W_lw_reckon) zE0) zc_46 (fun p => Nat.beq p 9 || Nat.beq p 49 || Nat.beq p 98 || Nat.beq p 191 || Nat.beq p 215) 400 0 [.ref 31, .int x, .int y, .ref 50] [] (ar, fi, (m1, m2, m3, m4, m5)) = (
  some (.inl (9, [.ref 31, .int x, .int y, .ref 50, .int 0, .int x, .int 0], [], (ar, fi, (m1, m2, m3, m4, m5)))) : Option ((Nat × List Value × List Value × zH2) ⊕ zO2)) := by with_unfolding_all rfl
set_option maxRecDepth 20000 in
theorem e_lw_run_31_50 {X : Nat × (Nat → Int32)} {ar fi : Nat → Nat → Int32} {m1 m2 m3 m4 m5 : Nat} {x y : Int32} {o : zO2} : ∀ (q : T_lw_run), q_lw_run x y (ar 32) (ar 33) (ar 34) (ar 50) = some q → (fun t => O_lw_run_31_50 ar fi m1 m2 m3 m4 m5 t = o) q → zR2 X zFT (zEx 47 S_lw_reckon zE0) zc_46 0 [.ref 31, .int x, .int y, .ref 50] [] (ar, fi, (m1, m2, m3, m4, m5)) o := by
  intro q h hq
  unfold q_lw_run at h
  refine zT_seg t_lw_run_31_50 ?_
  obtain ⟨TT, hTT⟩ : ∃ T, T = zT X zFT (zEx 47 S_lw_reckon zE0) zc_46 o := ⟨_, rfl⟩
  rw [← hTT]
  rw [hTT]
  refine zR2_hp ?_ ?_ (zlp_K k_lw_run_9_31_50 h hq)
  · first | with_reducible rfl | exact hA5_lw_run _
  · first | with_reducible rfl | rfl
theorem ok_lw_run (X : Nat × (Nat → Int32)) : zOkS X 46 S_lw_run 2 := zOkS_new (zOkE_cons (ok_lw_reckon X) (by decide) (zOkE_nil X 1)) (by
  intro args g o h
  obtain ⟨ar, fi, m1, m2, m3, m4, m5⟩ := g
  unfold S_lw_run P_lw_run at h
  split at h
  · refine zb_el h (fun hI0 k0 => ?_) (fun _ h10 => ?_)
    · try simp only [Bool.and_eq_true] at hI0
      obtain ⟨j0, j1⟩ := hI0
      have e0 := Nat.eq_of_beq_eq_true j0
      subst e0
      have e1 := Nat.eq_of_beq_eq_true j1
      subst e1
      exact zpe_el k0 (fun t ht ho => by obtain ⟨t0, t1⟩ := t; exact e_lw_run_23_50 _ ht ho)
    · skip
      refine zb_el h10 (fun hI1 k1 => ?_) (fun _ h11 => ?_)
      · try simp only [Bool.and_eq_true] at hI1
        obtain ⟨j0, j1⟩ := hI1
        have e0 := Nat.eq_of_beq_eq_true j0
        subst e0
        have e1 := Nat.eq_of_beq_eq_true j1
        subst e1
        exact zpe_el k1 (fun t ht ho => by obtain ⟨t0, t1⟩ := t; exact e_lw_run_31_50 _ ht ho)
      · cases h11
  · cases h)
