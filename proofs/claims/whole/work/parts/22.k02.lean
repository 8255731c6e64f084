abbrev T_lw_run : Type := Int32 × (Nat → Int32)
abbrev U_lw_run_9 : Type := Int32 × Int32 × Int32 × (Nat → Int32)
def b_lw_run_9 (y : Int32) (a24 : Nat → Int32) (a25 : Nat → Int32) (a50 : Nat → Int32) (l4 : Int32) (l5 : Int32) (l6 : Int32) (b26 : Nat → Int32) : Option (U_lw_run_9 ⊕ T_lw_run) :=
  bif decide (240 ≤ l6) then
   bif decide (1 ≤ l4) then
    zg (zin (l4 - 1) 32) (
    some (.inr (b26 ((l4 - 1).toNatClampNeg), b26)))
   else
    some (.inr (0, b26))
  else
   bif decide (l5 < 0) then
    bif decide (1 ≤ l4) then
     zg (zin (l4 - 1) 32) (
     some (.inr (b26 ((l4 - 1).toNatClampNeg), b26)))
    else
     some (.inr (0, b26))
   else
    bif decide (y ≤ l5) then
     bif decide (1 ≤ l4) then
      zg (zin (l4 - 1) 32) (
      some (.inr (b26 ((l4 - 1).toNatClampNeg), b26)))
     else
      some (.inr (0, b26))
    else
     zg (zin l5 240) (
     zg (zin l5 240) (
     bif decide (a24 (l5.toNatClampNeg) = 1) then
      bif decide (l4 < 32) then
       bif !decide (a24 (l5.toNatClampNeg) = 1) then
        zg (zin (a25 (l5.toNatClampNeg)) 9) (
        zg (zin l4 32) (
        some (.inl (l4 + 1, l5 + 1, l6 + 1, (zup b26 (l4.toNatClampNeg) (a50 ((a25 (l5.toNatClampNeg)).toNatClampNeg)))))))
       else
        zg (zin l4 32) (
        some (.inl (l4 + 1, l5 + 1, l6 + 1, (zup b26 (l4.toNatClampNeg) (a25 (l5.toNatClampNeg))))))
      else
       some (.inr (0, b26))
     else
      bif !decide (a24 (l5.toNatClampNeg) = 2) then
       bif decide (1 ≤ l4) then
        bif !decide (a24 (l5.toNatClampNeg) = 3) then
         bif decide (a24 (l5.toNatClampNeg) = 4) then
          zg (zin (l4 - 1) 32) (
          bif decide (b26 ((l4 - 1).toNatClampNeg) = 0) then
           bif !decide (a24 (l5.toNatClampNeg) = 5) then
            some (.inl (l4, a25 (l5.toNatClampNeg), l6 + 1, b26))
           else
            some (.inl (l4 + (-1), l5 + 1, l6 + 1, b26))
          else
           bif !decide (a24 (l5.toNatClampNeg) = 5) then
            some (.inl (l4 + (-1), l5 + 1, l6 + 1, b26))
           else
            some (.inl (l4, a25 (l5.toNatClampNeg), l6 + 1, b26)))
         else
          bif !decide (a24 (l5.toNatClampNeg) = 5) then
           bif decide (a24 (l5.toNatClampNeg) = 47) then
            bif decide (l4 + (-1) < 1) then
             some (.inr (0, b26))
            else
             zg (zin (l4 + (-1)) 32) (
             bif !decide (b26 ((l4 + (-1)).toNatClampNeg) = 0) then
              zg (zin ((l4 + (-1)) - 1) 32) (
              zg (zin (l4 + (-1)) 32) (
              zg (g_lw_reckon (a24 (l5.toNatClampNeg)) (b26 (((l4 + (-1)) - 1).toNatClampNeg)) (b26 ((l4 + (-1)).toNatClampNeg))) (
              zl (w_lw_reckon (a24 (l5.toNatClampNeg)) (b26 (((l4 + (-1)) - 1).toNatClampNeg)) (b26 ((l4 + (-1)).toNatClampNeg))) (fun v1 =>
              zg (zin ((l4 + (-1)) - 1) 32) (
              some (.inl (l4 + (-1), l5 + 1, l6 + 1, (zup b26 (((l4 + (-1)) - 1).toNatClampNeg) v1))))))))
             else
              some (.inr (0, b26)))
           else
            bif !decide (a24 (l5.toNatClampNeg) = 37) then
             bif decide (l4 + (-1) < 1) then
              some (.inr (0, b26))
             else
              zg (zin ((l4 + (-1)) - 1) 32) (
              zg (zin (l4 + (-1)) 32) (
              zg (g_lw_reckon (a24 (l5.toNatClampNeg)) (b26 (((l4 + (-1)) - 1).toNatClampNeg)) (b26 ((l4 + (-1)).toNatClampNeg))) (
              zl (w_lw_reckon (a24 (l5.toNatClampNeg)) (b26 (((l4 + (-1)) - 1).toNatClampNeg)) (b26 ((l4 + (-1)).toNatClampNeg))) (fun v2 =>
              zg (zin ((l4 + (-1)) - 1) 32) (
              some (.inl (l4 + (-1), l5 + 1, l6 + 1, (zup b26 (((l4 + (-1)) - 1).toNatClampNeg) v2))))))))
            else
             bif decide (l4 + (-1) < 1) then
              some (.inr (0, b26))
             else
              zg (zin (l4 + (-1)) 32) (
              bif !decide (b26 ((l4 + (-1)).toNatClampNeg) = 0) then
               zg (zin ((l4 + (-1)) - 1) 32) (
               zg (zin (l4 + (-1)) 32) (
               zg (g_lw_reckon (a24 (l5.toNatClampNeg)) (b26 (((l4 + (-1)) - 1).toNatClampNeg)) (b26 ((l4 + (-1)).toNatClampNeg))) (
               zl (w_lw_reckon (a24 (l5.toNatClampNeg)) (b26 (((l4 + (-1)) - 1).toNatClampNeg)) (b26 ((l4 + (-1)).toNatClampNeg))) (fun v3 =>
               zg (zin ((l4 + (-1)) - 1) 32) (
               some (.inl (l4 + (-1), l5 + 1, l6 + 1, (zup b26 (((l4 + (-1)) - 1).toNatClampNeg) v3))))))))
              else
               some (.inr (0, b26)))
          else
           zg (zin (l4 - 1) 32) (
           bif decide (b26 ((l4 - 1).toNatClampNeg) = 0) then
            bif !decide (a24 (l5.toNatClampNeg) = 5) then
             some (.inl (l4, a25 (l5.toNatClampNeg), l6 + 1, b26))
            else
             some (.inl (l4 + (-1), l5 + 1, l6 + 1, b26))
           else
            bif !decide (a24 (l5.toNatClampNeg) = 5) then
             some (.inl (l4 + (-1), l5 + 1, l6 + 1, b26))
            else
             some (.inl (l4, a25 (l5.toNatClampNeg), l6 + 1, b26)))
        else
         zg (zin (l4 - 1) 32) (
         zg (zin (l4 - 1) 32) (
         some (.inl (l4, l5 + 1, l6 + 1, (zup b26 ((l4 - 1).toNatClampNeg) (1 - (b26 ((l4 - 1).toNatClampNeg))))))))
       else
        some (.inr (0, b26))
      else
       bif decide (l4 < 32) then
        bif !decide (a24 (l5.toNatClampNeg) = 1) then
         zg (zin (a25 (l5.toNatClampNeg)) 9) (
         zg (zin l4 32) (
         some (.inl (l4 + 1, l5 + 1, l6 + 1, (zup b26 (l4.toNatClampNeg) (a50 ((a25 (l5.toNatClampNeg)).toNatClampNeg)))))))
        else
         zg (zin l4 32) (
         some (.inl (l4 + 1, l5 + 1, l6 + 1, (zup b26 (l4.toNatClampNeg) (a25 (l5.toNatClampNeg))))))
       else
        some (.inr (0, b26))))
def f_lw_run_9 (y : Int32) (a24 : Nat → Int32) (a25 : Nat → Int32) (a50 : Nat → Int32) : U_lw_run_9 → Option (U_lw_run_9 ⊕ T_lw_run) := fun s => b_lw_run_9 y a24 a25 a50 s.1 s.2.1 s.2.2.1 s.2.2.2
noncomputable def l_lw_run_9 (y : Int32) (a24 : Nat → Int32) (a25 : Nat → Int32) (a50 : Nat → Int32) (l4 : Int32) (l5 : Int32) (l6 : Int32) (b26 : Nat → Int32) : Option T_lw_run := zlp (f_lw_run_9 y a24 a25 a50) (l4, l5, l6, b26)
noncomputable def q_lw_run (x : Int32) (y : Int32) (a24 : Nat → Int32) (a25 : Nat → Int32) (a26 : Nat → Int32) (a50 : Nat → Int32) : Option T_lw_run :=
  l_lw_run_9 y a24 a25 a50 0 x 0 a26
def P_lw_run (Q : Int32 → Int32 → (Nat → Int32) → (Nat → Int32) → (Nat → Int32) → (Nat → Int32) → Option (Int32 × (Nat → Int32))) : zSp := fun as g => match as with
  | [.ref a, .int x, .int y, .ref b] => bif Nat.beq a 23 && Nat.beq b 50 then zpe (Q x y (g.1 24) (g.1 25) (g.1 26) (g.1 50)) (fun t => (some (.int (t.1)), ((zua g.1 26 t.2), g.2.1, g.2.2))) else bif Nat.beq a 31 && Nat.beq b 50 then zpe (Q x y (g.1 32) (g.1 33) (g.1 34) (g.1 50)) (fun t => (some (.int (t.1)), ((zua g.1 34 t.2), g.2.1, g.2.2))) else none
  | _ => none
noncomputable abbrev S_lw_run : zSp := P_lw_run q_lw_run
def O_lw_run_23_50 (ar fi : Nat → Nat → Int32) (m1 : Nat) (m2 : Nat) (m3 : Nat) (m4 : Nat) (m5 : Nat) (t : T_lw_run) : zO2 := (some (.int (t.1)), ((zua ar 26 t.2), fi, (m1, m2, m3, m4, m5)))
def M_lw_run_9_23_50 (X : Nat × (Nat → Int32)) (E : zTE) (ar fi : Nat → Nat → Int32) (m1 : Nat) (m2 : Nat) (m3 : Nat) (m4 : Nat) (m5 : Nat) (x : Int32) (y : Int32) (o : zO2) (s : U_lw_run_9) : Prop := zR2 X zFT E zc_46 9 [.ref 23, .int x, .int y, .ref 50, .int s.1, .int s.2.1, .int s.2.2.1] [] ((zua ar 26 s.2.2.2), fi, (m1, m2, m3, m4, m5)) o
set_option maxRecDepth 20000 in
theorem t9_lw_run_23_50 {X : Nat × (Nat → Int32)} {ar fi : Nat → Nat → Int32} {m1 m2 m3 m4 m5 : Nat} {x y : Int32} {l4 : Int32} {l5 : Int32} {l6 : Int32} {b26 : Nat → Int32} {G_lw_reckon : Int32 → Int32 → Int32 → Bool} {W_lw_reckon : Int32 → Int32 → Int32 → Int32} : zseg X zFT (zEx 47 (P_lw_reckon G_lw_reckon W_lw_reckon) zE0) zc_46 (fun p => Nat.beq p 9) 400 9 [.ref 23, .int x, .int y, .ref 50, .int l4, .int l5, .int l6] [] ((zua ar 26 b26), fi, (m1, m2, m3, m4, m5)) = (
  bif decide (240 ≤ l6) then
   bif decide (1 ≤ l4) then
    zg (zin (l4 - 1) 32) (
    some (.inr (some (.int (b26 ((l4 - 1).toNatClampNeg))), ((zua ar 26 b26), fi, (m1, m2, m3, m4, m5)))))
   else
    some (.inr (some (.int 0), ((zua ar 26 b26), fi, (m1, m2, m3, m4, m5))))
  else
   bif decide (l5 < 0) then
    bif decide (1 ≤ l4) then
     zg (zin (l4 - 1) 32) (
     some (.inr (some (.int (b26 ((l4 - 1).toNatClampNeg))), ((zua ar 26 b26), fi, (m1, m2, m3, m4, m5)))))
    else
     some (.inr (some (.int 0), ((zua ar 26 b26), fi, (m1, m2, m3, m4, m5))))
   else
    bif decide (y ≤ l5) then
     bif decide (1 ≤ l4) then
      zg (zin (l4 - 1) 32) (
      some (.inr (some (.int (b26 ((l4 - 1).toNatClampNeg))), ((zua ar 26 b26), fi, (m1, m2, m3, m4, m5)))))
     else
      some (.inr (some (.int 0), ((zua ar 26 b26), fi, (m1, m2, m3, m4, m5))))
    else
     zg (zin l5 240) (
     zg (zin l5 240) (
     bif decide ((ar 24) (l5.toNatClampNeg) = 1) then
      bif decide (l4 < 32) then
       bif !decide ((ar 24) (l5.toNatClampNeg) = 1) then
        zg (zin ((ar 25) (l5.toNatClampNeg)) 9) (
        zg (zin l4 32) (
        some (.inl (9, [.ref 23, .int x, .int y, .ref 50, .int (l4 + 1), .int (l5 + 1), .int (l6 + 1)], [], ((zua (zua ar 26 b26) 26 (zup b26 (l4.toNatClampNeg) ((ar 50) (((ar 25) (l5.toNatClampNeg)).toNatClampNeg)))), fi, (m1, m2, m3, m4, m5))))))
       else
        zg (zin l4 32) (
        some (.inl (9, [.ref 23, .int x, .int y, .ref 50, .int (l4 + 1), .int (l5 + 1), .int (l6 + 1)], [], ((zua (zua ar 26 b26) 26 (zup b26 (l4.toNatClampNeg) ((ar 25) (l5.toNatClampNeg)))), fi, (m1, m2, m3, m4, m5)))))
      else
       some (.inr (some (.int 0), ((zua ar 26 b26), fi, (m1, m2, m3, m4, m5))))
     else
      bif !decide ((ar 24) (l5.toNatClampNeg) = 2) then
       bif decide (1 ≤ l4) then
        bif !decide ((ar 24) (l5.toNatClampNeg) = 3) then
         bif decide ((ar 24) (l5.toNatClampNeg) = 4) then
          zg (zin (l4 - 1) 32) (
          bif decide (b26 ((l4 - 1).toNatClampNeg) = 0) then
           bif !decide ((ar 24) (l5.toNatClampNeg) = 5) then
            some (.inl (9, [.ref 23, .int x, .int y, .ref 50, .int l4, .int ((ar 25) (l5.toNatClampNeg)), .int (l6 + 1)], [], ((zua ar 26 b26), fi, (m1, m2, m3, m4, m5))))
           else
            some (.inl (9, [.ref 23, .int x, .int y, .ref 50, .int (l4 + (-1)), .int (l5 + 1), .int (l6 + 1)], [], ((zua ar 26 b26), fi, (m1, m2, m3, m4, m5))))
          else
           bif !decide ((ar 24) (l5.toNatClampNeg) = 5) then
            some (.inl (9, [.ref 23, .int x, .int y, .ref 50, .int (l4 + (-1)), .int (l5 + 1), .int (l6 + 1)], [], ((zua ar 26 b26), fi, (m1, m2, m3, m4, m5))))
           else
            some (.inl (9, [.ref 23, .int x, .int y, .ref 50, .int l4, .int ((ar 25) (l5.toNatClampNeg)), .int (l6 + 1)], [], ((zua ar 26 b26), fi, (m1, m2, m3, m4, m5)))))
         else
          bif !decide ((ar 24) (l5.toNatClampNeg) = 5) then
           bif decide ((ar 24) (l5.toNatClampNeg) = 47) then
            bif decide (l4 + (-1) < 1) then
             some (.inr (some (.int 0), ((zua ar 26 b26), fi, (m1, m2, m3, m4, m5))))
            else
             zg (zin (l4 + (-1)) 32) (
             bif !decide (b26 ((l4 + (-1)).toNatClampNeg) = 0) then
              zg (zin ((l4 + (-1)) - 1) 32) (
              zg (zin (l4 + (-1)) 32) (
              zg (G_lw_reckon ((ar 24) (l5.toNatClampNeg)) (b26 (((l4 + (-1)) - 1).toNatClampNeg)) (b26 ((l4 + (-1)).toNatClampNeg))) (
              zl (W_lw_reckon ((ar 24) (l5.toNatClampNeg)) (b26 (((l4 + (-1)) - 1).toNatClampNeg)) (b26 ((l4 + (-1)).toNatClampNeg))) (fun v1 =>
              zg (zin ((l4 + (-1)) - 1) 32) (
              some (.inl (9, [.ref 23, .int x, .int y, .ref 50, .int (l4 + (-1)), .int (l5 + 1), .int (l6 + 1)], [], ((zua (zua ar 26 b26) 26 (zup b26 (((l4 + (-1)) - 1).toNatClampNeg) v1)), fi, (m1, m2, m3, m4, m5)))))))))
             else
              some (.inr (some (.int 0), ((zua ar 26 b26), fi, (m1, m2, m3, m4, m5)))))
           else
            bif !decide ((ar 24) (l5.toNatClampNeg) = 37) then
             bif decide (l4 + (-1) < 1) then
              some (.inr (some (.int 0), ((zua ar 26 b26), fi, (m1, m2, m3, m4, m5))))
             else
              zg (zin ((l4 + (-1)) - 1) 32) (
              zg (zin (l4 + (-1)) 32) (
              zg (G_lw_reckon ((ar 24) (l5.toNatClampNeg)) (b26 (((l4 + (-1)) - 1).toNatClampNeg)) (b26 ((l4 + (-1)).toNatClampNeg))) (
              zl (W_lw_reckon ((ar 24) (l5.toNatClampNeg)) (b26 (((l4 + (-1)) - 1).toNatClampNeg)) (b26 ((l4 + (-1)).toNatClampNeg))) (fun v2 =>
              zg (zin ((l4 + (-1)) - 1) 32) (
              some (.inl (9, [.ref 23, .int x, .int y, .ref 50, .int (l4 + (-1)), .int (l5 + 1), .int (l6 + 1)], [], ((zua (zua ar 26 b26) 26 (zup b26 (((l4 + (-1)) - 1).toNatClampNeg) v2)), fi, (m1, m2, m3, m4, m5)))))))))
            else
             bif decide (l4 + (-1) < 1) then
              some (.inr (some (.int 0), ((zua ar 26 b26), fi, (m1, m2, m3, m4, m5))))
             else
              zg (zin (l4 + (-1)) 32) (
              bif !decide (b26 ((l4 + (-1)).toNatClampNeg) = 0) then
               zg (zin ((l4 + (-1)) - 1) 32) (
               zg (zin (l4 + (-1)) 32) (
               zg (G_lw_reckon ((ar 24) (l5.toNatClampNeg)) (b26 (((l4 + (-1)) - 1).toNatClampNeg)) (b26 ((l4 + (-1)).toNatClampNeg))) (
               zl (W_lw_reckon ((ar 24) (l5.toNatClampNeg)) (b26 (((l4 + (-1)) - 1).toNatClampNeg)) (b26 ((l4 + (-1)).toNatClampNeg))) (fun v3 =>
               zg (zin ((l4 + (-1)) - 1) 32) (
               some (.inl (9, [.ref 23, .int x, .int y, .ref 50, .int (l4 + (-1)), .int (l5 + 1), .int (l6 + 1)], [], ((zua (zua ar 26 b26) 26 (zup b26 (((l4 + (-1)) - 1).toNatClampNeg) v3)), fi, (m1, m2, m3, m4, m5)))))))))
              else
               some (.inr (some (.int 0), ((zua ar 26 b26), fi, (m1, m2, m3, m4, m5)))))
          else
           zg (zin (l4 - 1) 32) (
           bif decide (b26 ((l4 - 1).toNatClampNeg) = 0) then
            bif !decide ((ar 24) (l5.toNatClampNeg) = 5) then
             some (.inl (9, [.ref 23, .int x, .int y, .ref 50, .int l4, .int ((ar 25) (l5.toNatClampNeg)), .int (l6 + 1)], [], ((zua ar 26 b26), fi, (m1, m2, m3, m4, m5))))
            else
             some (.inl (9, [.ref 23, .int x, .int y, .ref 50, .int (l4 + (-1)), .int (l5 + 1), .int (l6 + 1)], [], ((zua ar 26 b26), fi, (m1, m2, m3, m4, m5))))
           else
            bif !decide ((ar 24) (l5.toNatClampNeg) = 5) then
             some (.inl (9, [.ref 23, .int x, .int y, .ref 50, .int (l4 + (-1)), .int (l5 + 1), .int (l6 + 1)], [], ((zua ar 26 b26), fi, (m1, m2, m3, m4, m5))))
            else
             some (.inl (9, [.ref 23, .int x, .int y, .ref 50, .int l4, .int ((ar 25) (l5.toNatClampNeg)), .int (l6 + 1)], [], ((zua ar 26 b26), fi, (m1, m2, m3, m4, m5)))))
        else
         zg (zin (l4 - 1) 32) (
         zg (zin (l4 - 1) 32) (
         some (.inl (9, [.ref 23, .int x, .int y, .ref 50, .int l4, .int (l5 + 1), .int (l6 + 1)], [], ((zua (zua ar 26 b26) 26 (zup b26 ((l4 - 1).toNatClampNeg) (1 - (b26 ((l4 - 1).toNatClampNeg))))), fi, (m1, m2, m3, m4, m5))))))
       else
        some (.inr (some (.int 0), ((zua ar 26 b26), fi, (m1, m2, m3, m4, m5))))
      else
       bif decide (l4 < 32) then
        bif !decide ((ar 24) (l5.toNatClampNeg) = 1) then
         zg (zin ((ar 25) (l5.toNatClampNeg)) 9) (
         zg (zin l4 32) (
         some (.inl (9, [.ref 23, .int x, .int y, .ref 50, .int (l4 + 1), .int (l5 + 1), .int (l6 + 1)], [], ((zua (zua ar 26 b26) 26 (zup b26 (l4.toNatClampNeg) ((ar 50) (((ar 25) (l5.toNatClampNeg)).toNatClampNeg)))), fi, (m1, m2, m3, m4, m5))))))
        else
         zg (zin l4 32) (
         some (.inl (9, [.ref 23, .int x, .int y, .ref 50, .int (l4 + 1), .int (l5 + 1), .int (l6 + 1)], [], ((zua (zua ar 26 b26) 26 (zup b26 (l4.toNatClampNeg) ((ar 25) (l5.toNatClampNeg)))), fi, (m1, m2, m3, m4, m5)))))
       else
        some (.inr (some (.int 0), ((zua ar 26 b26), fi, (m1, m2, m3, m4, m5)))))) : Option ((Nat × List Value × List Value × zH2) ⊕ zO2)) := rfl
theorem k_lw_run_9_23_50 {X : Nat × (Nat → Int32)} {ar fi : Nat → Nat → Int32} {m1 m2 m3 m4 m5 : Nat} {x y : Int32} {o : zO2} : ∀ (s : U_lw_run_9) (q : U_lw_run_9 ⊕ T_lw_run), f_lw_run_9 y (ar 24) (ar 25) (ar 50) s = some q → zq (M_lw_run_9_23_50 X (zEx 47 S_lw_reckon zE0) ar fi m1 m2 m3 m4 m5 x y o) (fun t => O_lw_run_23_50 ar fi m1 m2 m3 m4 m5 t = o) q → M_lw_run_9_23_50 X (zEx 47 S_lw_reckon zE0) ar fi m1 m2 m3 m4 m5 x y o s := by
  intro s q h hq
  obtain ⟨l4, l5, l6, b26⟩ := s
  have h : b_lw_run_9 y (ar 24) (ar 25) (ar 50) l4 l5 l6 b26 = some q := h
  unfold b_lw_run_9 at h
  show zR2 X zFT (zEx 47 S_lw_reckon zE0) zc_46 9 [.ref 23, .int x, .int y, .ref 50, .int l4, .int l5, .int l6] [] ((zua ar 26 b26), fi, (m1, m2, m3, m4, m5)) o
  refine zT_seg t9_lw_run_23_50 ?_
  refine zb_el h (fun hb h => zT_t hb ?_) (fun hb h => zT_f hb ?_)
  · refine zb_el h (fun hb h => zT_t hb ?_) (fun hb h => zT_f hb ?_)
    · refine zg_el h (fun hg h => zT_g hg ?_)
      have hz := zsi h hq
      refine (zO_mk ?_ ?_).trans hz
      · first | with_reducible rfl | (exact zuas_eq _ [(26, _)] [(26, _)] [26] rfl rfl ⟨rfl, trivial⟩)
      · first | with_reducible rfl | (rfl)
    · have hz := zsi h hq
      refine (zO_mk ?_ ?_).trans hz
      · first | with_reducible rfl | (exact zuas_eq _ [(26, _)] [(26, _)] [26] rfl rfl ⟨rfl, trivial⟩)
      · first | with_reducible rfl | (rfl)
  · refine zb_el h (fun hb h => zT_t hb ?_) (fun hb h => zT_f hb ?_)
    · refine zb_el h (fun hb h => zT_t hb ?_) (fun hb h => zT_f hb ?_)
      · refine zg_el h (fun hg h => zT_g hg ?_)
        have hz := zsi h hq
        refine (zO_mk ?_ ?_).trans hz
        · first | with_reducible rfl | (exact zuas_eq _ [(26, _)] [(26, _)] [26] rfl rfl ⟨rfl, trivial⟩)
        · first | with_reducible rfl | (rfl)
      · have hz := zsi h hq
        refine (zO_mk ?_ ?_).trans hz
        · first | with_reducible rfl | (exact zuas_eq _ [(26, _)] [(26, _)] [26] rfl rfl ⟨rfl, trivial⟩)
        · first | with_reducible rfl | (rfl)
    · refine zb_el h (fun hb h => zT_t hb ?_) (fun hb h => zT_f hb ?_)
      · refine zb_el h (fun hb h => zT_t hb ?_) (fun hb h => zT_f hb ?_)
        · refine zg_el h (fun hg h => zT_g hg ?_)
          have hz := zsi h hq
          refine (zO_mk ?_ ?_).trans hz
          · first | with_reducible rfl | (exact zuas_eq _ [(26, _)] [(26, _)] [26] rfl rfl ⟨rfl, trivial⟩)
          · first | with_reducible rfl | (rfl)
        · have hz := zsi h hq
          refine (zO_mk ?_ ?_).trans hz
          · first | with_reducible rfl | (exact zuas_eq _ [(26, _)] [(26, _)] [26] rfl rfl ⟨rfl, trivial⟩)
          · first | with_reducible rfl | (rfl)
      · refine zg_el h (fun hg h => zT_g hg ?_)
        refine zg_el h (fun hg h => zT_g hg ?_)
        refine zb_el h (fun hb h => zT_t hb ?_) (fun hb h => zT_f hb ?_)
        · refine zb_el h (fun hb h => zT_t hb ?_) (fun hb h => zT_f hb ?_)
          · refine zb_el h (fun hb h => zT_t hb ?_) (fun hb h => zT_f hb ?_)
            · refine zg_el h (fun hg h => zT_g hg ?_)
              refine zg_el h (fun hg h => zT_g hg ?_)
              have hz := zsi h hq
              refine zR2_hp ?_ ?_ hz
              · first | with_reducible rfl | (exact zuas_eq _ [(26, _), (26, _)] [(26, _)] [26] rfl rfl ⟨rfl, trivial⟩)
              · first | with_reducible rfl | (rfl)
            · refine zg_el h (fun hg h => zT_g hg ?_)
              have hz := zsi h hq
              refine zR2_hp ?_ ?_ hz
              · first | with_reducible rfl | (exact zuas_eq _ [(26, _), (26, _)] [(26, _)] [26] rfl rfl ⟨rfl, trivial⟩)
              · first | with_reducible rfl | (rfl)
          · have hz := zsi h hq
            refine (zO_mk ?_ ?_).trans hz
            · first | with_reducible rfl | (exact zuas_eq _ [(26, _)] [(26, _)] [26] rfl rfl ⟨rfl, trivial⟩)
            · first | with_reducible rfl | (rfl)
        · refine zb_el h (fun hb h => zT_t hb ?_) (fun hb h => zT_f hb ?_)
          · refine zb_el h (fun hb h => zT_t hb ?_) (fun hb h => zT_f hb ?_)
            · refine zb_el h (fun hb h => zT_t hb ?_) (fun hb h => zT_f hb ?_)
              · refine zb_el h (fun hb h => zT_t hb ?_) (fun hb h => zT_f hb ?_)
                · refine zg_el h (fun hg h => zT_g hg ?_)
                  refine zb_el h (fun hb h => zT_t hb ?_) (fun hb h => zT_f hb ?_)
                  · refine zb_el h (fun hb h => zT_t hb ?_) (fun hb h => zT_f hb ?_)
                    · have hz := zsi h hq
                      refine zR2_hp ?_ ?_ hz
                      · first | with_reducible rfl | (exact zuas_eq _ [(26, _)] [(26, _)] [26] rfl rfl ⟨rfl, trivial⟩)
                      · first | with_reducible rfl | (rfl)
                    · have hz := zsi h hq
                      refine zR2_hp ?_ ?_ hz
                      · first | with_reducible rfl | (exact zuas_eq _ [(26, _)] [(26, _)] [26] rfl rfl ⟨rfl, trivial⟩)
                      · first | with_reducible rfl | (rfl)
                  · refine zb_el h (fun hb h => zT_t hb ?_) (fun hb h => zT_f hb ?_)
                    · have hz := zsi h hq
                      refine zR2_hp ?_ ?_ hz
                      · first | with_reducible rfl | (exact zuas_eq _ [(26, _)] [(26, _)] [26] rfl rfl ⟨rfl, trivial⟩)
                      · first | with_reducible rfl | (rfl)
                    · have hz := zsi h hq
                      refine zR2_hp ?_ ?_ hz
                      · first | with_reducible rfl | (exact zuas_eq _ [(26, _)] [(26, _)] [26] rfl rfl ⟨rfl, trivial⟩)
                      · first | with_reducible rfl | (rfl)
                · refine zb_el h (fun hb h => zT_t hb ?_) (fun hb h => zT_f hb ?_)
                  · refine zb_el h (fun hb h => zT_t hb ?_) (fun hb h => zT_f hb ?_)
                    · refine zb_el h (fun hb h => zT_t hb ?_) (fun hb h => zT_f hb ?_)
                      · have hz := zsi h hq
                        refine (zO_mk ?_ ?_).trans hz
                        · first | with_reducible rfl | (exact zuas_eq _ [(26, _)] [(26, _)] [26] rfl rfl ⟨rfl, trivial⟩)
                        · first | with_reducible rfl | (rfl)
                      · refine zg_el h (fun hg h => zT_g hg ?_)
                        refine zb_el h (fun hb h => zT_t hb ?_) (fun hb h => zT_f hb ?_)
                        · refine zg_el h (fun hg h => zT_g hg ?_)
                          refine zg_el h (fun hg h => zT_g hg ?_)
                          refine zg_el h (fun hg h => zT_g hg ?_)
                          refine zl_el h (fun h => zT_l ?_)
                          refine zg_el h (fun hg h => zT_g hg ?_)
                          have hz := zsi h hq
                          refine zR2_hp ?_ ?_ hz
                          · first | with_reducible rfl | (exact zuas_eq _ [(26, _), (26, _)] [(26, _)] [26] rfl rfl ⟨rfl, trivial⟩)
                          · first | with_reducible rfl | (rfl)
                        · have hz := zsi h hq
                          refine (zO_mk ?_ ?_).trans hz
                          · first | with_reducible rfl | (exact zuas_eq _ [(26, _)] [(26, _)] [26] rfl rfl ⟨rfl, trivial⟩)
                          · first | with_reducible rfl | (rfl)
                    · refine zb_el h (fun hb h => zT_t hb ?_) (fun hb h => zT_f hb ?_)
                      · refine zb_el h (fun hb h => zT_t hb ?_) (fun hb h => zT_f hb ?_)
                        · have hz := zsi h hq
                          refine (zO_mk ?_ ?_).trans hz
                          · first | with_reducible rfl | (exact zuas_eq _ [(26, _)] [(26, _)] [26] rfl rfl ⟨rfl, trivial⟩)
                          · first | with_reducible rfl | (rfl)
                        · refine zg_el h (fun hg h => zT_g hg ?_)
                          refine zg_el h (fun hg h => zT_g hg ?_)
                          refine zg_el h (fun hg h => zT_g hg ?_)
                          refine zl_el h (fun h => zT_l ?_)
                          refine zg_el h (fun hg h => zT_g hg ?_)
                          have hz := zsi h hq
                          refine zR2_hp ?_ ?_ hz
                          · first | with_reducible rfl | (exact zuas_eq _ [(26, _), (26, _)] [(26, _)] [26] rfl rfl ⟨rfl, trivial⟩)
                          · first | with_reducible rfl | (rfl)
                      · refine zb_el h (fun hb h => zT_t hb ?_) (fun hb h => zT_f hb ?_)
                        · have hz := zsi h hq
                          refine (zO_mk ?_ ?_).trans hz
                          · first | with_reducible rfl | (exact zuas_eq _ [(26, _)] [(26, _)] [26] rfl rfl ⟨rfl, trivial⟩)
                          · first | with_reducible rfl | (rfl)
                        · refine zg_el h (fun hg h => zT_g hg ?_)
                          refine zb_el h (fun hb h => zT_t hb ?_) (fun hb h => zT_f hb ?_)
                          · refine zg_el h (fun hg h => zT_g hg ?_)
                            refine zg_el h (fun hg h => zT_g hg ?_)
                            refine zg_el h (fun hg h => zT_g hg ?_)
                            refine zl_el h (fun h => zT_l ?_)
                            refine zg_el h (fun hg h => zT_g hg ?_)
                            have hz := zsi h hq
                            refine zR2_hp ?_ ?_ hz
                            · first | with_reducible rfl | (exact zuas_eq _ [(26, _), (26, _)] [(26, _)] [26] rfl rfl ⟨rfl, trivial⟩)
                            · first | with_reducible rfl | (rfl)
                          · have hz := zsi h hq
                            refine (zO_mk ?_ ?_).trans hz
                            · first | with_reducible rfl | (exact zuas_eq _ [(26, _)] [(26, _)] [26] rfl rfl ⟨rfl, trivial⟩)
                            · first | with_reducible rfl | (rfl)
                  · refine zg_el h (fun hg h => zT_g hg ?_)
                    refine zb_el h (fun hb h => zT_t hb ?_) (fun hb h => zT_f hb ?_)
                    · refine zb_el h (fun hb h => zT_t hb ?_) (fun hb h => zT_f hb ?_)
                      · have hz := zsi h hq
                        refine zR2_hp ?_ ?_ hz
                        · first | with_reducible rfl | (exact zuas_eq _ [(26, _)] [(26, _)] [26] rfl rfl ⟨rfl, trivial⟩)
                        · first | with_reducible rfl | (rfl)
                      · have hz := zsi h hq
                        refine zR2_hp ?_ ?_ hz
                        · first | with_reducible rfl | (exact zuas_eq _ [(26, _)] [(26, _)] [26] rfl rfl ⟨rfl, trivial⟩)
                        · first | with_reducible rfl | (rfl)
                    · refine zb_el h (fun hb h => zT_t hb ?_) (fun hb h => zT_f hb ?_)
                      · have hz := zsi h hq
                        refine zR2_hp ?_ ?_ hz
                        · first | with_reducible rfl | (exact zuas_eq _ [(26, _)] [(26, _)] [26] rfl rfl ⟨rfl, trivial⟩)
                        · first | with_reducible rfl | (rfl)
                      · have hz := zsi h hq
                        refine zR2_hp ?_ ?_ hz
                        · first | with_reducible rfl | (exact zuas_eq _ [(26, _)] [(26, _)] [26] rfl rfl ⟨rfl, trivial⟩)
                        · first | with_reducible rfl | (rfl)
              · refine zg_el h (fun hg h => zT_g hg ?_)
                refine zg_el h (fun hg h => zT_g hg ?_)
                have hz := zsi h hq
                refine zR2_hp ?_ ?_ hz
                · first | with_reducible rfl | (exact zuas_eq _ [(26, _), (26, _)] [(26, _)] [26] rfl rfl ⟨rfl, trivial⟩)
                · first | with_reducible rfl | (rfl)
            · have hz := zsi h hq
              refine (zO_mk ?_ ?_).trans hz
              · first | with_reducible rfl | (exact zuas_eq _ [(26, _)] [(26, _)] [26] rfl rfl ⟨rfl, trivial⟩)
              · first | with_reducible rfl | (rfl)
          · refine zb_el h (fun hb h => zT_t hb ?_) (fun hb h => zT_f hb ?_)
            · refine zb_el h (fun hb h => zT_t hb ?_) (fun hb h => zT_f hb ?_)
              · refine zg_el h (fun hg h => zT_g hg ?_)
                refine zg_el h (fun hg h => zT_g hg ?_)
                have hz := zsi h hq
                refine zR2_hp ?_ ?_ hz
                · first | with_reducible rfl | (exact zuas_eq _ [(26, _), (26, _)] [(26, _)] [26] rfl rfl ⟨rfl, trivial⟩)
                · first | with_reducible rfl | (rfl)
              · refine zg_el h (fun hg h => zT_g hg ?_)
                have hz := zsi h hq
                refine zR2_hp ?_ ?_ hz
                · first | with_reducible rfl | (exact zuas_eq _ [(26, _), (26, _)] [(26, _)] [26] rfl rfl ⟨rfl, trivial⟩)
                · first | with_reducible rfl | (rfl)
            · have hz := zsi h hq
              refine (zO_mk ?_ ?_).trans hz
              · first | with_reducible rfl | (exact zuas_eq _ [(26, _)] [(26, _)] [26] rfl rfl ⟨rfl, trivial⟩)
              · first | with_reducible rfl | (rfl)
set_option maxRecDepth 20000 in
theorem t_lw_run_23_50 {X : Nat × (Nat → Int32)} {ar fi : Nat → Nat → Int32} {m1 m2 m3 m4 m5 : Nat} {x y : Int32} {G_lw_reckon : Int32 → Int32 → Int32 → Bool} {W_lw_reckon : Int32 → Int32 → Int32 → Int32} : zseg X zFT (zEx 47 (P_lw_reckon G_lw_reckon W_lw_reckon) zE0) zc_46 (fun p => Nat.beq p 9) 400 0 [.ref 23, .int x, .int y, .ref 50] [] (ar, fi, (m1, m2, m3, m4, m5)) = (
  some (.inl (9, [.ref 23, .int x, .int y, .ref 50, .int 0, .int x, .int 0], [], (ar, fi, (m1, m2, m3, m4, m5)))) : Option ((Nat × List Value × List Value × zH2) ⊕ zO2)) := rfl
theorem e_lw_run_23_50 {X : Nat × (Nat → Int32)} {ar fi : Nat → Nat → Int32} {m1 m2 m3 m4 m5 : Nat} {x y : Int32} {o : zO2} : ∀ (q : T_lw_run), q_lw_run x y (ar 24) (ar 25) (ar 26) (ar 50) = some q → (fun t => O_lw_run_23_50 ar fi m1 m2 m3 m4 m5 t = o) q → zR2 X zFT (zEx 47 S_lw_reckon zE0) zc_46 0 [.ref 23, .int x, .int y, .ref 50] [] (ar, fi, (m1, m2, m3, m4, m5)) o := by
  intro q h hq
  unfold q_lw_run at h
  refine zT_seg t_lw_run_23_50 ?_
  refine zR2_hp ?_ ?_ (zlp_K k_lw_run_9_23_50 h hq)
  · first | with_reducible rfl | (exact zuas_eq _ [] [(26, _)] [26] rfl rfl ⟨rfl, trivial⟩)
  · first | with_reducible rfl | (rfl)
def O_lw_run_31_50 (ar fi : Nat → Nat → Int32) (m1 : Nat) (m2 : Nat) (m3 : Nat) (m4 : Nat) (m5 : Nat) (t : T_lw_run) : zO2 := (some (.int (t.1)), ((zua ar 34 t.2), fi, (m1, m2, m3, m4, m5)))
def M_lw_run_9_31_50 (X : Nat × (Nat → Int32)) (E : zTE) (ar fi : Nat → Nat → Int32) (m1 : Nat) (m2 : Nat) (m3 : Nat) (m4 : Nat) (m5 : Nat) (x : Int32) (y : Int32) (o : zO2) (s : U_lw_run_9) : Prop := zR2 X zFT E zc_46 9 [.ref 31, .int x, .int y, .ref 50, .int s.1, .int s.2.1, .int s.2.2.1] [] ((zua ar 34 s.2.2.2), fi, (m1, m2, m3, m4, m5)) o
set_option maxRecDepth 20000 in
theorem t9_lw_run_31_50 {X : Nat × (Nat → Int32)} {ar fi : Nat → Nat → Int32} {m1 m2 m3 m4 m5 : Nat} {x y : Int32} {l4 : Int32} {l5 : Int32} {l6 : Int32} {b34 : Nat → Int32} {G_lw_reckon : Int32 → Int32 → Int32 → Bool} {W_lw_reckon : Int32 → Int32 → Int32 → Int32} : zseg X zFT (zEx 47 (P_lw_reckon G_lw_reckon W_lw_reckon) zE0) zc_46 (fun p => Nat.beq p 9) 400 9 [.ref 31, .int x, .int y, .ref 50, .int l4, .int l5, .int l6] [] ((zua ar 34 b34), fi, (m1, m2, m3, m4, m5)) = (
  bif decide (240 ≤ l6) then
   bif decide (1 ≤ l4) then
    zg (zin (l4 - 1) 32) (
    some (.inr (some (.int (b34 ((l4 - 1).toNatClampNeg))), ((zua ar 34 b34), fi, (m1, m2, m3, m4, m5)))))
   else
    some (.inr (some (.int 0), ((zua ar 34 b34), fi, (m1, m2, m3, m4, m5))))
  else
   bif decide (l5 < 0) then
    bif decide (1 ≤ l4) then
     zg (zin (l4 - 1) 32) (
     some (.inr (some (.int (b34 ((l4 - 1).toNatClampNeg))), ((zua ar 34 b34), fi, (m1, m2, m3, m4, m5)))))
    else
     some (.inr (some (.int 0), ((zua ar 34 b34), fi, (m1, m2, m3, m4, m5))))
   else
    bif decide (y ≤ l5) then
     bif decide (1 ≤ l4) then
      zg (zin (l4 - 1) 32) (
      some (.inr (some (.int (b34 ((l4 - 1).toNatClampNeg))), ((zua ar 34 b34), fi, (m1, m2, m3, m4, m5)))))
     else
      some (.inr (some (.int 0), ((zua ar 34 b34), fi, (m1, m2, m3, m4, m5))))
    else
     zg (zin l5 240) (
     zg (zin l5 240) (
     bif decide ((ar 32) (l5.toNatClampNeg) = 1) then
      bif decide (l4 < 32) then
       bif !decide ((ar 32) (l5.toNatClampNeg) = 1) then
        zg (zin ((ar 33) (l5.toNatClampNeg)) 9) (
        zg (zin l4 32) (
        some (.inl (9, [.ref 31, .int x, .int y, .ref 50, .int (l4 + 1), .int (l5 + 1), .int (l6 + 1)], [], ((zua (zua ar 34 b34) 34 (zup b34 (l4.toNatClampNeg) ((ar 50) (((ar 33) (l5.toNatClampNeg)).toNatClampNeg)))), fi, (m1, m2, m3, m4, m5))))))
       else
        zg (zin l4 32) (
        some (.inl (9, [.ref 31, .int x, .int y, .ref 50, .int (l4 + 1), .int (l5 + 1), .int (l6 + 1)], [], ((zua (zua ar 34 b34) 34 (zup b34 (l4.toNatClampNeg) ((ar 33) (l5.toNatClampNeg)))), fi, (m1, m2, m3, m4, m5)))))
      else
       some (.inr (some (.int 0), ((zua ar 34 b34), fi, (m1, m2, m3, m4, m5))))
     else
      bif !decide ((ar 32) (l5.toNatClampNeg) = 2) then
       bif decide (1 ≤ l4) then
        bif !decide ((ar 32) (l5.toNatClampNeg) = 3) then
         bif decide ((ar 32) (l5.toNatClampNeg) = 4) then
          zg (zin (l4 - 1) 32) (
          bif decide (b34 ((l4 - 1).toNatClampNeg) = 0) then
           bif !decide ((ar 32) (l5.toNatClampNeg) = 5) then
            some (.inl (9, [.ref 31, .int x, .int y, .ref 50, .int l4, .int ((ar 33) (l5.toNatClampNeg)), .int (l6 + 1)], [], ((zua ar 34 b34), fi, (m1, m2, m3, m4, m5))))
           else
            some (.inl (9, [.ref 31, .int x, .int y, .ref 50, .int (l4 + (-1)), .int (l5 + 1), .int (l6 + 1)], [], ((zua ar 34 b34), fi, (m1, m2, m3, m4, m5))))
          else
           bif !decide ((ar 32) (l5.toNatClampNeg) = 5) then
            some (.inl (9, [.ref 31, .int x, .int y, .ref 50, .int (l4 + (-1)), .int (l5 + 1), .int (l6 + 1)], [], ((zua ar 34 b34), fi, (m1, m2, m3, m4, m5))))
           else
            some (.inl (9, [.ref 31, .int x, .int y, .ref 50, .int l4, .int ((ar 33) (l5.toNatClampNeg)), .int (l6 + 1)], [], ((zua ar 34 b34), fi, (m1, m2, m3, m4, m5)))))
         else
          bif !decide ((ar 32) (l5.toNatClampNeg) = 5) then
           bif decide ((ar 32) (l5.toNatClampNeg) = 47) then
            bif decide (l4 + (-1) < 1) then
             some (.inr (some (.int 0), ((zua ar 34 b34), fi, (m1, m2, m3, m4, m5))))
            else
             zg (zin (l4 + (-1)) 32) (
             bif !decide (b34 ((l4 + (-1)).toNatClampNeg) = 0) then
              zg (zin ((l4 + (-1)) - 1) 32) (
              zg (zin (l4 + (-1)) 32) (
              zg (G_lw_reckon ((ar 32) (l5.toNatClampNeg)) (b34 (((l4 + (-1)) - 1).toNatClampNeg)) (b34 ((l4 + (-1)).toNatClampNeg))) (
              zl (W_lw_reckon ((ar 32) (l5.toNatClampNeg)) (b34 (((l4 + (-1)) - 1).toNatClampNeg)) (b34 ((l4 + (-1)).toNatClampNeg))) (fun v1 =>
              zg (zin ((l4 + (-1)) - 1) 32) (
              some (.inl (9, [.ref 31, .int x, .int y, .ref 50, .int (l4 + (-1)), .int (l5 + 1), .int (l6 + 1)], [], ((zua (zua ar 34 b34) 34 (zup b34 (((l4 + (-1)) - 1).toNatClampNeg) v1)), fi, (m1, m2, m3, m4, m5)))))))))
             else
              some (.inr (some (.int 0), ((zua ar 34 b34), fi, (m1, m2, m3, m4, m5)))))
           else
            bif !decide ((ar 32) (l5.toNatClampNeg) = 37) then
             bif decide (l4 + (-1) < 1) then
              some (.inr (some (.int 0), ((zua ar 34 b34), fi, (m1, m2, m3, m4, m5))))
             else
              zg (zin ((l4 + (-1)) - 1) 32) (
              zg (zin (l4 + (-1)) 32) (
              zg (G_lw_reckon ((ar 32) (l5.toNatClampNeg)) (b34 (((l4 + (-1)) - 1).toNatClampNeg)) (b34 ((l4 + (-1)).toNatClampNeg))) (
              zl (W_lw_reckon ((ar 32) (l5.toNatClampNeg)) (b34 (((l4 + (-1)) - 1).toNatClampNeg)) (b34 ((l4 + (-1)).toNatClampNeg))) (fun v2 =>
              zg (zin ((l4 + (-1)) - 1) 32) (
              some (.inl (9, [.ref 31, .int x, .int y, .ref 50, .int (l4 + (-1)), .int (l5 + 1), .int (l6 + 1)], [], ((zua (zua ar 34 b34) 34 (zup b34 (((l4 + (-1)) - 1).toNatClampNeg) v2)), fi, (m1, m2, m3, m4, m5)))))))))
            else
             bif decide (l4 + (-1) < 1) then
              some (.inr (some (.int 0), ((zua ar 34 b34), fi, (m1, m2, m3, m4, m5))))
             else
              zg (zin (l4 + (-1)) 32) (
              bif !decide (b34 ((l4 + (-1)).toNatClampNeg) = 0) then
               zg (zin ((l4 + (-1)) - 1) 32) (
               zg (zin (l4 + (-1)) 32) (
               zg (G_lw_reckon ((ar 32) (l5.toNatClampNeg)) (b34 (((l4 + (-1)) - 1).toNatClampNeg)) (b34 ((l4 + (-1)).toNatClampNeg))) (
               zl (W_lw_reckon ((ar 32) (l5.toNatClampNeg)) (b34 (((l4 + (-1)) - 1).toNatClampNeg)) (b34 ((l4 + (-1)).toNatClampNeg))) (fun v3 =>
               zg (zin ((l4 + (-1)) - 1) 32) (
               some (.inl (9, [.ref 31, .int x, .int y, .ref 50, .int (l4 + (-1)), .int (l5 + 1), .int (l6 + 1)], [], ((zua (zua ar 34 b34) 34 (zup b34 (((l4 + (-1)) - 1).toNatClampNeg) v3)), fi, (m1, m2, m3, m4, m5)))))))))
              else
               some (.inr (some (.int 0), ((zua ar 34 b34), fi, (m1, m2, m3, m4, m5)))))
          else
           zg (zin (l4 - 1) 32) (
           bif decide (b34 ((l4 - 1).toNatClampNeg) = 0) then
            bif !decide ((ar 32) (l5.toNatClampNeg) = 5) then
             some (.inl (9, [.ref 31, .int x, .int y, .ref 50, .int l4, .int ((ar 33) (l5.toNatClampNeg)), .int (l6 + 1)], [], ((zua ar 34 b34), fi, (m1, m2, m3, m4, m5))))
            else
             some (.inl (9, [.ref 31, .int x, .int y, .ref 50, .int (l4 + (-1)), .int (l5 + 1), .int (l6 + 1)], [], ((zua ar 34 b34), fi, (m1, m2, m3, m4, m5))))
           else
            bif !decide ((ar 32) (l5.toNatClampNeg) = 5) then
             some (.inl (9, [.ref 31, .int x, .int y, .ref 50, .int (l4 + (-1)), .int (l5 + 1), .int (l6 + 1)], [], ((zua ar 34 b34), fi, (m1, m2, m3, m4, m5))))
            else
             some (.inl (9, [.ref 31, .int x, .int y, .ref 50, .int l4, .int ((ar 33) (l5.toNatClampNeg)), .int (l6 + 1)], [], ((zua ar 34 b34), fi, (m1, m2, m3, m4, m5)))))
        else
         zg (zin (l4 - 1) 32) (
         zg (zin (l4 - 1) 32) (
         some (.inl (9, [.ref 31, .int x, .int y, .ref 50, .int l4, .int (l5 + 1), .int (l6 + 1)], [], ((zua (zua ar 34 b34) 34 (zup b34 ((l4 - 1).toNatClampNeg) (1 - (b34 ((l4 - 1).toNatClampNeg))))), fi, (m1, m2, m3, m4, m5))))))
       else
        some (.inr (some (.int 0), ((zua ar 34 b34), fi, (m1, m2, m3, m4, m5))))
      else
       bif decide (l4 < 32) then
        bif !decide ((ar 32) (l5.toNatClampNeg) = 1) then
         zg (zin ((ar 33) (l5.toNatClampNeg)) 9) (
         zg (zin l4 32) (
         some (.inl (9, [.ref 31, .int x, .int y, .ref 50, .int (l4 + 1), .int (l5 + 1), .int (l6 + 1)], [], ((zua (zua ar 34 b34) 34 (zup b34 (l4.toNatClampNeg) ((ar 50) (((ar 33) (l5.toNatClampNeg)).toNatClampNeg)))), fi, (m1, m2, m3, m4, m5))))))
        else
         zg (zin l4 32) (
         some (.inl (9, [.ref 31, .int x, .int y, .ref 50, .int (l4 + 1), .int (l5 + 1), .int (l6 + 1)], [], ((zua (zua ar 34 b34) 34 (zup b34 (l4.toNatClampNeg) ((ar 33) (l5.toNatClampNeg)))), fi, (m1, m2, m3, m4, m5)))))
       else
        some (.inr (some (.int 0), ((zua ar 34 b34), fi, (m1, m2, m3, m4, m5)))))) : Option ((Nat × List Value × List Value × zH2) ⊕ zO2)) := rfl
theorem k_lw_run_9_31_50 {X : Nat × (Nat → Int32)} {ar fi : Nat → Nat → Int32} {m1 m2 m3 m4 m5 : Nat} {x y : Int32} {o : zO2} : ∀ (s : U_lw_run_9) (q : U_lw_run_9 ⊕ T_lw_run), f_lw_run_9 y (ar 32) (ar 33) (ar 50) s = some q → zq (M_lw_run_9_31_50 X (zEx 47 S_lw_reckon zE0) ar fi m1 m2 m3 m4 m5 x y o) (fun t => O_lw_run_31_50 ar fi m1 m2 m3 m4 m5 t = o) q → M_lw_run_9_31_50 X (zEx 47 S_lw_reckon zE0) ar fi m1 m2 m3 m4 m5 x y o s := by
  intro s q h hq
  obtain ⟨l4, l5, l6, b34⟩ := s
  have h : b_lw_run_9 y (ar 32) (ar 33) (ar 50) l4 l5 l6 b34 = some q := h
  unfold b_lw_run_9 at h
  show zR2 X zFT (zEx 47 S_lw_reckon zE0) zc_46 9 [.ref 31, .int x, .int y, .ref 50, .int l4, .int l5, .int l6] [] ((zua ar 34 b34), fi, (m1, m2, m3, m4, m5)) o
  refine zT_seg t9_lw_run_31_50 ?_
  refine zb_el h (fun hb h => zT_t hb ?_) (fun hb h => zT_f hb ?_)
  · refine zb_el h (fun hb h => zT_t hb ?_) (fun hb h => zT_f hb ?_)
    · refine zg_el h (fun hg h => zT_g hg ?_)
      have hz := zsi h hq
      refine (zO_mk ?_ ?_).trans hz
      · first | with_reducible rfl | (exact zuas_eq _ [(34, _)] [(34, _)] [34] rfl rfl ⟨rfl, trivial⟩)
      · first | with_reducible rfl | (rfl)
    · have hz := zsi h hq
      refine (zO_mk ?_ ?_).trans hz
      · first | with_reducible rfl | (exact zuas_eq _ [(34, _)] [(34, _)] [34] rfl rfl ⟨rfl, trivial⟩)
      · first | with_reducible rfl | (rfl)
  · refine zb_el h (fun hb h => zT_t hb ?_) (fun hb h => zT_f hb ?_)
    · refine zb_el h (fun hb h => zT_t hb ?_) (fun hb h => zT_f hb ?_)
      · refine zg_el h (fun hg h => zT_g hg ?_)
        have hz := zsi h hq
        refine (zO_mk ?_ ?_).trans hz
        · first | with_reducible rfl | (exact zuas_eq _ [(34, _)] [(34, _)] [34] rfl rfl ⟨rfl, trivial⟩)
        · first | with_reducible rfl | (rfl)
      · have hz := zsi h hq
        refine (zO_mk ?_ ?_).trans hz
        · first | with_reducible rfl | (exact zuas_eq _ [(34, _)] [(34, _)] [34] rfl rfl ⟨rfl, trivial⟩)
        · first | with_reducible rfl | (rfl)
    · refine zb_el h (fun hb h => zT_t hb ?_) (fun hb h => zT_f hb ?_)
      · refine zb_el h (fun hb h => zT_t hb ?_) (fun hb h => zT_f hb ?_)
        · refine zg_el h (fun hg h => zT_g hg ?_)
          have hz := zsi h hq
          refine (zO_mk ?_ ?_).trans hz
          · first | with_reducible rfl | (exact zuas_eq _ [(34, _)] [(34, _)] [34] rfl rfl ⟨rfl, trivial⟩)
          · first | with_reducible rfl | (rfl)
        · have hz := zsi h hq
          refine (zO_mk ?_ ?_).trans hz
          · first | with_reducible rfl | (exact zuas_eq _ [(34, _)] [(34, _)] [34] rfl rfl ⟨rfl, trivial⟩)
          · first | with_reducible rfl | (rfl)
      · refine zg_el h (fun hg h => zT_g hg ?_)
        refine zg_el h (fun hg h => zT_g hg ?_)
        refine zb_el h (fun hb h => zT_t hb ?_) (fun hb h => zT_f hb ?_)
        · refine zb_el h (fun hb h => zT_t hb ?_) (fun hb h => zT_f hb ?_)
          · refine zb_el h (fun hb h => zT_t hb ?_) (fun hb h => zT_f hb ?_)
            · refine zg_el h (fun hg h => zT_g hg ?_)
              refine zg_el h (fun hg h => zT_g hg ?_)
              have hz := zsi h hq
              refine zR2_hp ?_ ?_ hz
              · first | with_reducible rfl | (exact zuas_eq _ [(34, _), (34, _)] [(34, _)] [34] rfl rfl ⟨rfl, trivial⟩)
              · first | with_reducible rfl | (rfl)
            · refine zg_el h (fun hg h => zT_g hg ?_)
              have hz := zsi h hq
              refine zR2_hp ?_ ?_ hz
              · first | with_reducible rfl | (exact zuas_eq _ [(34, _), (34, _)] [(34, _)] [34] rfl rfl ⟨rfl, trivial⟩)
              · first | with_reducible rfl | (rfl)
          · have hz := zsi h hq
            refine (zO_mk ?_ ?_).trans hz
            · first | with_reducible rfl | (exact zuas_eq _ [(34, _)] [(34, _)] [34] rfl rfl ⟨rfl, trivial⟩)
            · first | with_reducible rfl | (rfl)
        · refine zb_el h (fun hb h => zT_t hb ?_) (fun hb h => zT_f hb ?_)
          · refine zb_el h (fun hb h => zT_t hb ?_) (fun hb h => zT_f hb ?_)
            · refine zb_el h (fun hb h => zT_t hb ?_) (fun hb h => zT_f hb ?_)
              · refine zb_el h (fun hb h => zT_t hb ?_) (fun hb h => zT_f hb ?_)
                · refine zg_el h (fun hg h => zT_g hg ?_)
                  refine zb_el h (fun hb h => zT_t hb ?_) (fun hb h => zT_f hb ?_)
                  · refine zb_el h (fun hb h => zT_t hb ?_) (fun hb h => zT_f hb ?_)
                    · have hz := zsi h hq
                      refine zR2_hp ?_ ?_ hz
                      · first | with_reducible rfl | (exact zuas_eq _ [(34, _)] [(34, _)] [34] rfl rfl ⟨rfl, trivial⟩)
                      · first | with_reducible rfl | (rfl)
                    · have hz := zsi h hq
                      refine zR2_hp ?_ ?_ hz
                      · first | with_reducible rfl | (exact zuas_eq _ [(34, _)] [(34, _)] [34] rfl rfl ⟨rfl, trivial⟩)
                      · first | with_reducible rfl | (rfl)
                  · refine zb_el h (fun hb h => zT_t hb ?_) (fun hb h => zT_f hb ?_)
                    · have hz := zsi h hq
                      refine zR2_hp ?_ ?_ hz
                      · first | with_reducible rfl | (exact zuas_eq _ [(34, _)] [(34, _)] [34] rfl rfl ⟨rfl, trivial⟩)
                      · first | with_reducible rfl | (rfl)
                    · have hz := zsi h hq
                      refine zR2_hp ?_ ?_ hz
                      · first | with_reducible rfl | (exact zuas_eq _ [(34, _)] [(34, _)] [34] rfl rfl ⟨rfl, trivial⟩)
                      · first | with_reducible rfl | (rfl)
                · refine zb_el h (fun hb h => zT_t hb ?_) (fun hb h => zT_f hb ?_)
                  · refine zb_el h (fun hb h => zT_t hb ?_) (fun hb h => zT_f hb ?_)
                    · refine zb_el h (fun hb h => zT_t hb ?_) (fun hb h => zT_f hb ?_)
                      · have hz := zsi h hq
                        refine (zO_mk ?_ ?_).trans hz
                        · first | with_reducible rfl | (exact zuas_eq _ [(34, _)] [(34, _)] [34] rfl rfl ⟨rfl, trivial⟩)
                        · first | with_reducible rfl | (rfl)
                      · refine zg_el h (fun hg h => zT_g hg ?_)
                        refine zb_el h (fun hb h => zT_t hb ?_) (fun hb h => zT_f hb ?_)
                        · refine zg_el h (fun hg h => zT_g hg ?_)
                          refine zg_el h (fun hg h => zT_g hg ?_)
                          refine zg_el h (fun hg h => zT_g hg ?_)
                          refine zl_el h (fun h => zT_l ?_)
                          refine zg_el h (fun hg h => zT_g hg ?_)
                          have hz := zsi h hq
                          refine zR2_hp ?_ ?_ hz
                          · first | with_reducible rfl | (exact zuas_eq _ [(34, _), (34, _)] [(34, _)] [34] rfl rfl ⟨rfl, trivial⟩)
                          · first | with_reducible rfl | (rfl)
                        · have hz := zsi h hq
                          refine (zO_mk ?_ ?_).trans hz
                          · first | with_reducible rfl | (exact zuas_eq _ [(34, _)] [(34, _)] [34] rfl rfl ⟨rfl, trivial⟩)
                          · first | with_reducible rfl | (rfl)
                    · refine zb_el h (fun hb h => zT_t hb ?_) (fun hb h => zT_f hb ?_)
                      · refine zb_el h (fun hb h => zT_t hb ?_) (fun hb h => zT_f hb ?_)
                        · have hz := zsi h hq
                          refine (zO_mk ?_ ?_).trans hz
                          · first | with_reducible rfl | (exact zuas_eq _ [(34, _)] [(34, _)] [34] rfl rfl ⟨rfl, trivial⟩)
                          · first | with_reducible rfl | (rfl)
                        · refine zg_el h (fun hg h => zT_g hg ?_)
                          refine zg_el h (fun hg h => zT_g hg ?_)
                          refine zg_el h (fun hg h => zT_g hg ?_)
                          refine zl_el h (fun h => zT_l ?_)
                          refine zg_el h (fun hg h => zT_g hg ?_)
                          have hz := zsi h hq
                          refine zR2_hp ?_ ?_ hz
                          · first | with_reducible rfl | (exact zuas_eq _ [(34, _), (34, _)] [(34, _)] [34] rfl rfl ⟨rfl, trivial⟩)
                          · first | with_reducible rfl | (rfl)
                      · refine zb_el h (fun hb h => zT_t hb ?_) (fun hb h => zT_f hb ?_)
                        · have hz := zsi h hq
                          refine (zO_mk ?_ ?_).trans hz
                          · first | with_reducible rfl | (exact zuas_eq _ [(34, _)] [(34, _)] [34] rfl rfl ⟨rfl, trivial⟩)
                          · first | with_reducible rfl | (rfl)
                        · refine zg_el h (fun hg h => zT_g hg ?_)
                          refine zb_el h (fun hb h => zT_t hb ?_) (fun hb h => zT_f hb ?_)
                          · refine zg_el h (fun hg h => zT_g hg ?_)
                            refine zg_el h (fun hg h => zT_g hg ?_)
                            refine zg_el h (fun hg h => zT_g hg ?_)
                            refine zl_el h (fun h => zT_l ?_)
                            refine zg_el h (fun hg h => zT_g hg ?_)
                            have hz := zsi h hq
                            refine zR2_hp ?_ ?_ hz
                            · first | with_reducible rfl | (exact zuas_eq _ [(34, _), (34, _)] [(34, _)] [34] rfl rfl ⟨rfl, trivial⟩)
                            · first | with_reducible rfl | (rfl)
                          · have hz := zsi h hq
                            refine (zO_mk ?_ ?_).trans hz
                            · first | with_reducible rfl | (exact zuas_eq _ [(34, _)] [(34, _)] [34] rfl rfl ⟨rfl, trivial⟩)
                            · first | with_reducible rfl | (rfl)
                  · refine zg_el h (fun hg h => zT_g hg ?_)
                    refine zb_el h (fun hb h => zT_t hb ?_) (fun hb h => zT_f hb ?_)
                    · refine zb_el h (fun hb h => zT_t hb ?_) (fun hb h => zT_f hb ?_)
                      · have hz := zsi h hq
                        refine zR2_hp ?_ ?_ hz
                        · first | with_reducible rfl | (exact zuas_eq _ [(34, _)] [(34, _)] [34] rfl rfl ⟨rfl, trivial⟩)
                        · first | with_reducible rfl | (rfl)
                      · have hz := zsi h hq
                        refine zR2_hp ?_ ?_ hz
                        · first | with_reducible rfl | (exact zuas_eq _ [(34, _)] [(34, _)] [34] rfl rfl ⟨rfl, trivial⟩)
                        · first | with_reducible rfl | (rfl)
                    · refine zb_el h (fun hb h => zT_t hb ?_) (fun hb h => zT_f hb ?_)
                      · have hz := zsi h hq
                        refine zR2_hp ?_ ?_ hz
                        · first | with_reducible rfl | (exact zuas_eq _ [(34, _)] [(34, _)] [34] rfl rfl ⟨rfl, trivial⟩)
                        · first | with_reducible rfl | (rfl)
                      · have hz := zsi h hq
                        refine zR2_hp ?_ ?_ hz
                        · first | with_reducible rfl | (exact zuas_eq _ [(34, _)] [(34, _)] [34] rfl rfl ⟨rfl, trivial⟩)
                        · first | with_reducible rfl | (rfl)
              · refine zg_el h (fun hg h => zT_g hg ?_)
                refine zg_el h (fun hg h => zT_g hg ?_)
                have hz := zsi h hq
                refine zR2_hp ?_ ?_ hz
                · first | with_reducible rfl | (exact zuas_eq _ [(34, _), (34, _)] [(34, _)] [34] rfl rfl ⟨rfl, trivial⟩)
                · first | with_reducible rfl | (rfl)
            · have hz := zsi h hq
              refine (zO_mk ?_ ?_).trans hz
              · first | with_reducible rfl | (exact zuas_eq _ [(34, _)] [(34, _)] [34] rfl rfl ⟨rfl, trivial⟩)
              · first | with_reducible rfl | (rfl)
          · refine zb_el h (fun hb h => zT_t hb ?_) (fun hb h => zT_f hb ?_)
            · refine zb_el h (fun hb h => zT_t hb ?_) (fun hb h => zT_f hb ?_)
              · refine zg_el h (fun hg h => zT_g hg ?_)
                refine zg_el h (fun hg h => zT_g hg ?_)
                have hz := zsi h hq
                refine zR2_hp ?_ ?_ hz
                · first | with_reducible rfl | (exact zuas_eq _ [(34, _), (34, _)] [(34, _)] [34] rfl rfl ⟨rfl, trivial⟩)
                · first | with_reducible rfl | (rfl)
              · refine zg_el h (fun hg h => zT_g hg ?_)
                have hz := zsi h hq
                refine zR2_hp ?_ ?_ hz
                · first | with_reducible rfl | (exact zuas_eq _ [(34, _), (34, _)] [(34, _)] [34] rfl rfl ⟨rfl, trivial⟩)
                · first | with_reducible rfl | (rfl)
            · have hz := zsi h hq
              refine (zO_mk ?_ ?_).trans hz
              · first | with_reducible rfl | (exact zuas_eq _ [(34, _)] [(34, _)] [34] rfl rfl ⟨rfl, trivial⟩)
              · first | with_reducible rfl | (rfl)
set_option maxRecDepth 20000 in
theorem t_lw_run_31_50 {X : Nat × (Nat → Int32)} {ar fi : Nat → Nat → Int32} {m1 m2 m3 m4 m5 : Nat} {x y : Int32} {G_lw_reckon : Int32 → Int32 → Int32 → Bool} {W_lw_reckon : Int32 → Int32 → Int32 → Int32} : zseg X zFT (zEx 47 (P_lw_reckon G_lw_reckon W_lw_reckon) zE0) zc_46 (fun p => Nat.beq p 9) 400 0 [.ref 31, .int x, .int y, .ref 50] [] (ar, fi, (m1, m2, m3, m4, m5)) = (
  some (.inl (9, [.ref 31, .int x, .int y, .ref 50, .int 0, .int x, .int 0], [], (ar, fi, (m1, m2, m3, m4, m5)))) : Option ((Nat × List Value × List Value × zH2) ⊕ zO2)) := rfl
theorem e_lw_run_31_50 {X : Nat × (Nat → Int32)} {ar fi : Nat → Nat → Int32} {m1 m2 m3 m4 m5 : Nat} {x y : Int32} {o : zO2} : ∀ (q : T_lw_run), q_lw_run x y (ar 32) (ar 33) (ar 34) (ar 50) = some q → (fun t => O_lw_run_31_50 ar fi m1 m2 m3 m4 m5 t = o) q → zR2 X zFT (zEx 47 S_lw_reckon zE0) zc_46 0 [.ref 31, .int x, .int y, .ref 50] [] (ar, fi, (m1, m2, m3, m4, m5)) o := by
  intro q h hq
  unfold q_lw_run at h
  refine zT_seg t_lw_run_31_50 ?_
  refine zR2_hp ?_ ?_ (zlp_K k_lw_run_9_31_50 h hq)
  · first | with_reducible rfl | (exact zuas_eq _ [] [(34, _)] [34] rfl rfl ⟨rfl, trivial⟩)
  · first | with_reducible rfl | (rfl)
theorem ok_lw_run (X : Nat × (Nat → Int32)) : zOkS X 46 S_lw_run 2 := zOkS_new (zOkE_cons (ok_lw_reckon X) (by decide) (zOkE_nil X 1)) (by
  intro args g o h
  obtain ⟨ar, fi, m1, m2, m3, m4, m5⟩ := g
  unfold S_lw_run P_lw_run at h
  split at h
  · refine zb_el h (fun hI0 k0 => ?_) (fun _ h10 => ?_)
    · try simp only [Bool.and_eq_true] at hI0
      obtain ⟨j0, j1⟩ := hI0
      have e0 := Nat.eq_of_beq_eq_true j0
      subst e0
      have e1 := Nat.eq_of_beq_eq_true j1
      subst e1
      exact zpe_el k0 (fun t ht ho => e_lw_run_23_50 t ht ho)
    · skip
      refine zb_el h10 (fun hI1 k1 => ?_) (fun _ h11 => ?_)
      · try simp only [Bool.and_eq_true] at hI1
        obtain ⟨j0, j1⟩ := hI1
        have e0 := Nat.eq_of_beq_eq_true j0
        subst e0
        have e1 := Nat.eq_of_beq_eq_true j1
        subst e1
        exact zpe_el k1 (fun t ht ho => e_lw_run_31_50 t ht ho)
      · cases h11
  · cases h)
abbrev T_lr_readLetter : Type := Int32 × (Nat → Int32) × (Nat → Int32) × Int32 × Int32 × Int32
def q_lr_readLetter (y : Int32) (a1 : Nat → Int32) (a27 : Nat → Int32) (a28 : Nat → Int32) (f23_7 : Int32) (f23_9 : Int32) (f40_1 : Int32) (f40_2 : Int32) (f40_3 : Int32) (f40_4 : Int32) : Option T_lr_readLetter :=
  zg (g_tx_sign (f40_2) (f40_4) (f40_1) a1) (
  zl (w_tx_sign (f40_2) (f40_4) (f40_1) a1) (fun v1 =>
  bif decide (v1 = 98) then
   bif decide (y < 16) then
    zl (f0_tx_skip (f40_4)) (fun v2 =>
    zg (g_lw_beginRule v1 (f23_9) a27 a28 (f23_7)) (
    zl (a0_lw_beginRule v1 (f23_9) a27 a28 (f23_7)) (fun v3 =>
    zl (a1_lw_beginRule v1 (f23_9) a27 a28 (f23_7)) (fun v4 =>
    some (v1, v3, v4, f40_2, f40_3, v2)))))
   else
    zl (f0_tx_fail 4 (f40_4) (f40_2) (f40_3)) (fun v5 =>
    zl (f1_tx_fail 4 (f40_4) (f40_2) (f40_3)) (fun v6 =>
    some (v1, a27, a28, v5, v6, f40_4)))
  else
   bif decide (v1 = 115) then
    bif decide (y < 16) then
     zl (f0_tx_skip (f40_4)) (fun v7 =>
     zg (g_lw_beginRule v1 (f23_9) a27 a28 (f23_7)) (
     zl (a0_lw_beginRule v1 (f23_9) a27 a28 (f23_7)) (fun v8 =>
     zl (a1_lw_beginRule v1 (f23_9) a27 a28 (f23_7)) (fun v9 =>
     some (v1, v8, v9, f40_2, f40_3, v7)))))
    else
     zl (f0_tx_fail 4 (f40_4) (f40_2) (f40_3)) (fun v10 =>
     zl (f1_tx_fail 4 (f40_4) (f40_2) (f40_3)) (fun v11 =>
     some (v1, a27, a28, v10, v11, f40_4)))
   else
    bif decide (v1 = 120) then
     bif decide (y < 16) then
      zl (f0_tx_skip (f40_4)) (fun v12 =>
      zg (g_lw_beginRule v1 (f23_9) a27 a28 (f23_7)) (
      zl (a0_lw_beginRule v1 (f23_9) a27 a28 (f23_7)) (fun v13 =>
      zl (a1_lw_beginRule v1 (f23_9) a27 a28 (f23_7)) (fun v14 =>
      some (v1, v13, v14, f40_2, f40_3, v12)))))
     else
      zl (f0_tx_fail 4 (f40_4) (f40_2) (f40_3)) (fun v15 =>
      zl (f1_tx_fail 4 (f40_4) (f40_2) (f40_3)) (fun v16 =>
      some (v1, a27, a28, v15, v16, f40_4)))
    else
     zl (f0_tx_fail 1 (f40_4) (f40_2) (f40_3)) (fun v17 =>
     zl (f1_tx_fail 1 (f40_4) (f40_2) (f40_3)) (fun v18 =>
     some (v1, a27, a28, v17, v18, f40_4)))))
def P_lr_readLetter (Q : Int32 → (Nat → Int32) → (Nat → Int32) → (Nat → Int32) → Int32 → Int32 → Int32 → Int32 → Int32 → Int32 → Option (Int32 × (Nat → Int32) × (Nat → Int32) × Int32 × Int32 × Int32)) : zSp := fun as g => match as with
  | [.ref a, .ref b, .int y] => bif Nat.beq a 39 && Nat.beq b 23 && Nat.beq g.2.2.2.2.1 1 then zpe (Q y (g.1 1) (g.1 27) (g.1 28) (g.2.1 23 7) (g.2.1 23 9) (g.2.1 40 1) (g.2.1 40 2) (g.2.1 40 3) (g.2.1 40 4)) (fun t => (some (.int (t.1)), ((zua (zua g.1 27 t.2.1) 28 t.2.2.1), (zuf (zuf (zuf g.2.1 40 2 t.2.2.2.1) 40 3 t.2.2.2.2.1) 40 4 t.2.2.2.2.2), g.2.2))) else bif Nat.beq a 39 && Nat.beq b 31 && Nat.beq g.2.2.2.2.1 1 then zpe (Q y (g.1 1) (g.1 35) (g.1 36) (g.2.1 31 7) (g.2.1 31 9) (g.2.1 40 1) (g.2.1 40 2) (g.2.1 40 3) (g.2.1 40 4)) (fun t => (some (.int (t.1)), ((zua (zua g.1 35 t.2.1) 36 t.2.2.1), (zuf (zuf (zuf g.2.1 40 2 t.2.2.2.1) 40 3 t.2.2.2.2.1) 40 4 t.2.2.2.2.2), g.2.2))) else none
  | _ => none
noncomputable abbrev S_lr_readLetter : zSp := P_lr_readLetter q_lr_readLetter
def O_lr_readLetter_39_23 (ar fi : Nat → Nat → Int32) (m1 : Nat) (m2 : Nat) (m4 : Nat) (m5 : Nat) (t : T_lr_readLetter) : zO2 := (some (.int (t.1)), ((zua (zua ar 27 t.2.1) 28 t.2.2.1), (zuf (zuf (zuf fi 40 2 t.2.2.2.1) 40 3 t.2.2.2.2.1) 40 4 t.2.2.2.2.2), (m1, m2, 1, m4, m5)))
set_option maxRecDepth 20000 in
theorem t_lr_readLetter_39_23 {X : Nat × (Nat → Int32)} {ar fi : Nat → Nat → Int32} {m1 m2 m4 m5 : Nat} {y : Int32} {G_tx_sign : Int32 → Int32 → Int32 → (Nat → Int32) → Bool} {W_tx_sign : Int32 → Int32 → Int32 → (Nat → Int32) → Int32} {F0_tx_fail : Int32 → Int32 → Int32 → Int32 → Int32} {F1_tx_fail : Int32 → Int32 → Int32 → Int32 → Int32} {F0_tx_skip : Int32 → Int32} {G_lw_beginRule : Int32 → Int32 → (Nat → Int32) → (Nat → Int32) → Int32 → Bool} {A0_lw_beginRule : Int32 → Int32 → (Nat → Int32) → (Nat → Int32) → Int32 → Nat → Int32} {A1_lw_beginRule : Int32 → Int32 → (Nat → Int32) → (Nat → Int32) → Int32 → Nat → Int32} : zseg X zFT (zEx 93 (P_tx_sign G_tx_sign W_tx_sign) (zEx 97 (P_tx_fail F0_tx_fail F1_tx_fail) (zEx 95 (P_tx_skip F0_tx_skip) (zEx 37 (P_lw_beginRule G_lw_beginRule A0_lw_beginRule A1_lw_beginRule) zE0)))) zc_50 (fun p => false) 400 0 [.ref 39, .ref 23, .int y] [] (ar, fi, (m1, m2, 1, m4, m5)) = (
  zg (G_tx_sign (fi 40 2) (fi 40 4) (fi 40 1) (ar 1)) (
  zl (W_tx_sign (fi 40 2) (fi 40 4) (fi 40 1) (ar 1)) (fun v1 =>
  bif decide (v1 = 98) then
   bif decide (y < 16) then
    zl (F0_tx_skip (fi 40 4)) (fun v2 =>
    zg (G_lw_beginRule v1 (fi 23 9) (ar 27) (ar 28) (fi 23 7)) (
    zl (A0_lw_beginRule v1 (fi 23 9) (ar 27) (ar 28) (fi 23 7)) (fun v3 =>
    zl (A1_lw_beginRule v1 (fi 23 9) (ar 27) (ar 28) (fi 23 7)) (fun v4 =>
    some (.inr (some (.int v1), ((zua (zua ar 27 v3) 28 v4), (zuf fi 40 4 v2), (m1, m2, 1, m4, m5))))))))
   else
    zl (F0_tx_fail 4 (fi 40 4) (fi 40 2) (fi 40 3)) (fun v5 =>
    zl (F1_tx_fail 4 (fi 40 4) (fi 40 2) (fi 40 3)) (fun v6 =>
    some (.inr (some (.int v1), (ar, (zuf (zuf fi 40 2 v5) 40 3 v6), (m1, m2, 1, m4, m5))))))
  else
   bif decide (v1 = 115) then
    bif decide (y < 16) then
     zl (F0_tx_skip (fi 40 4)) (fun v7 =>
     zg (G_lw_beginRule v1 (fi 23 9) (ar 27) (ar 28) (fi 23 7)) (
     zl (A0_lw_beginRule v1 (fi 23 9) (ar 27) (ar 28) (fi 23 7)) (fun v8 =>
     zl (A1_lw_beginRule v1 (fi 23 9) (ar 27) (ar 28) (fi 23 7)) (fun v9 =>
     some (.inr (some (.int v1), ((zua (zua ar 27 v8) 28 v9), (zuf fi 40 4 v7), (m1, m2, 1, m4, m5))))))))
    else
     zl (F0_tx_fail 4 (fi 40 4) (fi 40 2) (fi 40 3)) (fun v10 =>
     zl (F1_tx_fail 4 (fi 40 4) (fi 40 2) (fi 40 3)) (fun v11 =>
     some (.inr (some (.int v1), (ar, (zuf (zuf fi 40 2 v10) 40 3 v11), (m1, m2, 1, m4, m5))))))
   else
    bif decide (v1 = 120) then
     bif decide (y < 16) then
      zl (F0_tx_skip (fi 40 4)) (fun v12 =>
      zg (G_lw_beginRule v1 (fi 23 9) (ar 27) (ar 28) (fi 23 7)) (
      zl (A0_lw_beginRule v1 (fi 23 9) (ar 27) (ar 28) (fi 23 7)) (fun v13 =>
      zl (A1_lw_beginRule v1 (fi 23 9) (ar 27) (ar 28) (fi 23 7)) (fun v14 =>
      some (.inr (some (.int v1), ((zua (zua ar 27 v13) 28 v14), (zuf fi 40 4 v12), (m1, m2, 1, m4, m5))))))))
     else
      zl (F0_tx_fail 4 (fi 40 4) (fi 40 2) (fi 40 3)) (fun v15 =>
      zl (F1_tx_fail 4 (fi 40 4) (fi 40 2) (fi 40 3)) (fun v16 =>
      some (.inr (some (.int v1), (ar, (zuf (zuf fi 40 2 v15) 40 3 v16), (m1, m2, 1, m4, m5))))))
    else
     zl (F0_tx_fail 1 (fi 40 4) (fi 40 2) (fi 40 3)) (fun v17 =>
     zl (F1_tx_fail 1 (fi 40 4) (fi 40 2) (fi 40 3)) (fun v18 =>
     some (.inr (some (.int v1), (ar, (zuf (zuf fi 40 2 v17) 40 3 v18), (m1, m2, 1, m4, m5)))))))) : Option ((Nat × List Value × List Value × zH2) ⊕ zO2)) := rfl
theorem e_lr_readLetter_39_23 {X : Nat × (Nat → Int32)} {ar fi : Nat → Nat → Int32} {m1 m2 m4 m5 : Nat} {y : Int32} {o : zO2} : ∀ (q : T_lr_readLetter), q_lr_readLetter y (ar 1) (ar 27) (ar 28) (fi 23 7) (fi 23 9) (fi 40 1) (fi 40 2) (fi 40 3) (fi 40 4) = some q → (fun t => O_lr_readLetter_39_23 ar fi m1 m2 m4 m5 t = o) q → zR2 X zFT (zEx 93 S_tx_sign (zEx 97 S_tx_fail (zEx 95 S_tx_skip (zEx 37 S_lw_beginRule zE0)))) zc_50 0 [.ref 39, .ref 23, .int y] [] (ar, fi, (m1, m2, 1, m4, m5)) o := by
  intro q h hq
  unfold q_lr_readLetter at h
  refine zT_seg t_lr_readLetter_39_23 ?_
  refine zg_el h (fun hg h => zT_g hg ?_)
  refine zl_el h (fun h => zT_l ?_)
  refine zb_el h (fun hb h => zT_t hb ?_) (fun hb h => zT_f hb ?_)
  · refine zb_el h (fun hb h => zT_t hb ?_) (fun hb h => zT_f hb ?_)
    · refine zl_el h (fun h => zT_l ?_)
      refine zg_el h (fun hg h => zT_g hg ?_)
      refine zl_el h (fun h => zT_l ?_)
      refine zl_el h (fun h => zT_l ?_)
      have hz := zsi h hq
      refine (zO_mk ?_ ?_).trans hz
      · first | with_reducible rfl | (exact zuas_eq _ [(27, _), (28, _)] [(27, _), (28, _)] [27, 28] rfl rfl ⟨rfl, rfl, trivial⟩)
      · first | with_reducible rfl | (exact zufs_eq _ [(40, 4, _)] [(40, 2, _), (40, 3, _), (40, 4, _)] [(40, 2), (40, 3), (40, 4)] rfl rfl ⟨rfl, rfl, rfl, trivial⟩)
    · refine zl_el h (fun h => zT_l ?_)
      refine zl_el h (fun h => zT_l ?_)
      have hz := zsi h hq
      refine (zO_mk ?_ ?_).trans hz
      · first | with_reducible rfl | (exact zuas_eq _ [] [(27, _), (28, _)] [27, 28] rfl rfl ⟨rfl, rfl, trivial⟩)
      · first | with_reducible rfl | (exact zufs_eq _ [(40, 2, _), (40, 3, _)] [(40, 2, _), (40, 3, _), (40, 4, _)] [(40, 2), (40, 3), (40, 4)] rfl rfl ⟨rfl, rfl, rfl, trivial⟩)
  · refine zb_el h (fun hb h => zT_t hb ?_) (fun hb h => zT_f hb ?_)
    · refine zb_el h (fun hb h => zT_t hb ?_) (fun hb h => zT_f hb ?_)
      · refine zl_el h (fun h => zT_l ?_)
        refine zg_el h (fun hg h => zT_g hg ?_)
        refine zl_el h (fun h => zT_l ?_)
        refine zl_el h (fun h => zT_l ?_)
        have hz := zsi h hq
        refine (zO_mk ?_ ?_).trans hz
        · first | with_reducible rfl | (exact zuas_eq _ [(27, _), (28, _)] [(27, _), (28, _)] [27, 28] rfl rfl ⟨rfl, rfl, trivial⟩)
        · first | with_reducible rfl | (exact zufs_eq _ [(40, 4, _)] [(40, 2, _), (40, 3, _), (40, 4, _)] [(40, 2), (40, 3), (40, 4)] rfl rfl ⟨rfl, rfl, rfl, trivial⟩)
      · refine zl_el h (fun h => zT_l ?_)
        refine zl_el h (fun h => zT_l ?_)
        have hz := zsi h hq
        refine (zO_mk ?_ ?_).trans hz
        · first | with_reducible rfl | (exact zuas_eq _ [] [(27, _), (28, _)] [27, 28] rfl rfl ⟨rfl, rfl, trivial⟩)
        · first | with_reducible rfl | (exact zufs_eq _ [(40, 2, _), (40, 3, _)] [(40, 2, _), (40, 3, _), (40, 4, _)] [(40, 2), (40, 3), (40, 4)] rfl rfl ⟨rfl, rfl, rfl, trivial⟩)
    · refine zb_el h (fun hb h => zT_t hb ?_) (fun hb h => zT_f hb ?_)
      · refine zb_el h (fun hb h => zT_t hb ?_) (fun hb h => zT_f hb ?_)
        · refine zl_el h (fun h => zT_l ?_)
          refine zg_el h (fun hg h => zT_g hg ?_)
          refine zl_el h (fun h => zT_l ?_)
          refine zl_el h (fun h => zT_l ?_)
          have hz := zsi h hq
          refine (zO_mk ?_ ?_).trans hz
          · first | with_reducible rfl | (exact zuas_eq _ [(27, _), (28, _)] [(27, _), (28, _)] [27, 28] rfl rfl ⟨rfl, rfl, trivial⟩)
          · first | with_reducible rfl | (exact zufs_eq _ [(40, 4, _)] [(40, 2, _), (40, 3, _), (40, 4, _)] [(40, 2), (40, 3), (40, 4)] rfl rfl ⟨rfl, rfl, rfl, trivial⟩)
        · refine zl_el h (fun h => zT_l ?_)
          refine zl_el h (fun h => zT_l ?_)
          have hz := zsi h hq
          refine (zO_mk ?_ ?_).trans hz
          · first | with_reducible rfl | (exact zuas_eq _ [] [(27, _), (28, _)] [27, 28] rfl rfl ⟨rfl, rfl, trivial⟩)
          · first | with_reducible rfl | (exact zufs_eq _ [(40, 2, _), (40, 3, _)] [(40, 2, _), (40, 3, _), (40, 4, _)] [(40, 2), (40, 3), (40, 4)] rfl rfl ⟨rfl, rfl, rfl, trivial⟩)
      · refine zl_el h (fun h => zT_l ?_)
        refine zl_el h (fun h => zT_l ?_)
        have hz := zsi h hq
        refine (zO_mk ?_ ?_).trans hz
        · first | with_reducible rfl | (exact zuas_eq _ [] [(27, _), (28, _)] [27, 28] rfl rfl ⟨rfl, rfl, trivial⟩)
        · first | with_reducible rfl | (exact zufs_eq _ [(40, 2, _), (40, 3, _)] [(40, 2, _), (40, 3, _), (40, 4, _)] [(40, 2), (40, 3), (40, 4)] rfl rfl ⟨rfl, rfl, rfl, trivial⟩)
def O_lr_readLetter_39_31 (ar fi : Nat → Nat → Int32) (m1 : Nat) (m2 : Nat) (m4 : Nat) (m5 : Nat) (t : T_lr_readLetter) : zO2 := (some (.int (t.1)), ((zua (zua ar 35 t.2.1) 36 t.2.2.1), (zuf (zuf (zuf fi 40 2 t.2.2.2.1) 40 3 t.2.2.2.2.1) 40 4 t.2.2.2.2.2), (m1, m2, 1, m4, m5)))
set_option maxRecDepth 20000 in
theorem t_lr_readLetter_39_31 {X : Nat × (Nat → Int32)} {ar fi : Nat → Nat → Int32} {m1 m2 m4 m5 : Nat} {y : Int32} {G_tx_sign : Int32 → Int32 → Int32 → (Nat → Int32) → Bool} {W_tx_sign : Int32 → Int32 → Int32 → (Nat → Int32) → Int32} {F0_tx_fail : Int32 → Int32 → Int32 → Int32 → Int32} {F1_tx_fail : Int32 → Int32 → Int32 → Int32 → Int32} {F0_tx_skip : Int32 → Int32} {G_lw_beginRule : Int32 → Int32 → (Nat → Int32) → (Nat → Int32) → Int32 → Bool} {A0_lw_beginRule : Int32 → Int32 → (Nat → Int32) → (Nat → Int32) → Int32 → Nat → Int32} {A1_lw_beginRule : Int32 → Int32 → (Nat → Int32) → (Nat → Int32) → Int32 → Nat → Int32} : zseg X zFT (zEx 93 (P_tx_sign G_tx_sign W_tx_sign) (zEx 97 (P_tx_fail F0_tx_fail F1_tx_fail) (zEx 95 (P_tx_skip F0_tx_skip) (zEx 37 (P_lw_beginRule G_lw_beginRule A0_lw_beginRule A1_lw_beginRule) zE0)))) zc_50 (fun p => false) 400 0 [.ref 39, .ref 31, .int y] [] (ar, fi, (m1, m2, 1, m4, m5)) = (
  zg (G_tx_sign (fi 40 2) (fi 40 4) (fi 40 1) (ar 1)) (
  zl (W_tx_sign (fi 40 2) (fi 40 4) (fi 40 1) (ar 1)) (fun v1 =>
  bif decide (v1 = 98) then
   bif decide (y < 16) then
    zl (F0_tx_skip (fi 40 4)) (fun v2 =>
    zg (G_lw_beginRule v1 (fi 31 9) (ar 35) (ar 36) (fi 31 7)) (
    zl (A0_lw_beginRule v1 (fi 31 9) (ar 35) (ar 36) (fi 31 7)) (fun v3 =>
    zl (A1_lw_beginRule v1 (fi 31 9) (ar 35) (ar 36) (fi 31 7)) (fun v4 =>
    some (.inr (some (.int v1), ((zua (zua ar 35 v3) 36 v4), (zuf fi 40 4 v2), (m1, m2, 1, m4, m5))))))))
   else
    zl (F0_tx_fail 4 (fi 40 4) (fi 40 2) (fi 40 3)) (fun v5 =>
    zl (F1_tx_fail 4 (fi 40 4) (fi 40 2) (fi 40 3)) (fun v6 =>
    some (.inr (some (.int v1), (ar, (zuf (zuf fi 40 2 v5) 40 3 v6), (m1, m2, 1, m4, m5))))))
  else
   bif decide (v1 = 115) then
    bif decide (y < 16) then
     zl (F0_tx_skip (fi 40 4)) (fun v7 =>
     zg (G_lw_beginRule v1 (fi 31 9) (ar 35) (ar 36) (fi 31 7)) (
     zl (A0_lw_beginRule v1 (fi 31 9) (ar 35) (ar 36) (fi 31 7)) (fun v8 =>
     zl (A1_lw_beginRule v1 (fi 31 9) (ar 35) (ar 36) (fi 31 7)) (fun v9 =>
     some (.inr (some (.int v1), ((zua (zua ar 35 v8) 36 v9), (zuf fi 40 4 v7), (m1, m2, 1, m4, m5))))))))
    else
     zl (F0_tx_fail 4 (fi 40 4) (fi 40 2) (fi 40 3)) (fun v10 =>
     zl (F1_tx_fail 4 (fi 40 4) (fi 40 2) (fi 40 3)) (fun v11 =>
     some (.inr (some (.int v1), (ar, (zuf (zuf fi 40 2 v10) 40 3 v11), (m1, m2, 1, m4, m5))))))
   else
    bif decide (v1 = 120) then
     bif decide (y < 16) then
      zl (F0_tx_skip (fi 40 4)) (fun v12 =>
      zg (G_lw_beginRule v1 (fi 31 9) (ar 35) (ar 36) (fi 31 7)) (
      zl (A0_lw_beginRule v1 (fi 31 9) (ar 35) (ar 36) (fi 31 7)) (fun v13 =>
      zl (A1_lw_beginRule v1 (fi 31 9) (ar 35) (ar 36) (fi 31 7)) (fun v14 =>
      some (.inr (some (.int v1), ((zua (zua ar 35 v13) 36 v14), (zuf fi 40 4 v12), (m1, m2, 1, m4, m5))))))))
     else
      zl (F0_tx_fail 4 (fi 40 4) (fi 40 2) (fi 40 3)) (fun v15 =>
      zl (F1_tx_fail 4 (fi 40 4) (fi 40 2) (fi 40 3)) (fun v16 =>
      some (.inr (some (.int v1), (ar, (zuf (zuf fi 40 2 v15) 40 3 v16), (m1, m2, 1, m4, m5))))))
    else
     zl (F0_tx_fail 1 (fi 40 4) (fi 40 2) (fi 40 3)) (fun v17 =>
     zl (F1_tx_fail 1 (fi 40 4) (fi 40 2) (fi 40 3)) (fun v18 =>
     some (.inr (some (.int v1), (ar, (zuf (zuf fi 40 2 v17) 40 3 v18), (m1, m2, 1, m4, m5)))))))) : Option ((Nat × List Value × List Value × zH2) ⊕ zO2)) := rfl
theorem e_lr_readLetter_39_31 {X : Nat × (Nat → Int32)} {ar fi : Nat → Nat → Int32} {m1 m2 m4 m5 : Nat} {y : Int32} {o : zO2} : ∀ (q : T_lr_readLetter), q_lr_readLetter y (ar 1) (ar 35) (ar 36) (fi 31 7) (fi 31 9) (fi 40 1) (fi 40 2) (fi 40 3) (fi 40 4) = some q → (fun t => O_lr_readLetter_39_31 ar fi m1 m2 m4 m5 t = o) q → zR2 X zFT (zEx 93 S_tx_sign (zEx 97 S_tx_fail (zEx 95 S_tx_skip (zEx 37 S_lw_beginRule zE0)))) zc_50 0 [.ref 39, .ref 31, .int y] [] (ar, fi, (m1, m2, 1, m4, m5)) o := by
  intro q h hq
  unfold q_lr_readLetter at h
  refine zT_seg t_lr_readLetter_39_31 ?_
  refine zg_el h (fun hg h => zT_g hg ?_)
  refine zl_el h (fun h => zT_l ?_)
  refine zb_el h (fun hb h => zT_t hb ?_) (fun hb h => zT_f hb ?_)
  · refine zb_el h (fun hb h => zT_t hb ?_) (fun hb h => zT_f hb ?_)
    · refine zl_el h (fun h => zT_l ?_)
      refine zg_el h (fun hg h => zT_g hg ?_)
      refine zl_el h (fun h => zT_l ?_)
      refine zl_el h (fun h => zT_l ?_)
      have hz := zsi h hq
      refine (zO_mk ?_ ?_).trans hz
      · first | with_reducible rfl | (exact zuas_eq _ [(35, _), (36, _)] [(35, _), (36, _)] [35, 36] rfl rfl ⟨rfl, rfl, trivial⟩)
      · first | with_reducible rfl | (exact zufs_eq _ [(40, 4, _)] [(40, 2, _), (40, 3, _), (40, 4, _)] [(40, 2), (40, 3), (40, 4)] rfl rfl ⟨rfl, rfl, rfl, trivial⟩)
    · refine zl_el h (fun h => zT_l ?_)
      refine zl_el h (fun h => zT_l ?_)
      have hz := zsi h hq
      refine (zO_mk ?_ ?_).trans hz
      · first | with_reducible rfl | (exact zuas_eq _ [] [(35, _), (36, _)] [35, 36] rfl rfl ⟨rfl, rfl, trivial⟩)
      · first | with_reducible rfl | (exact zufs_eq _ [(40, 2, _), (40, 3, _)] [(40, 2, _), (40, 3, _), (40, 4, _)] [(40, 2), (40, 3), (40, 4)] rfl rfl ⟨rfl, rfl, rfl, trivial⟩)
  · refine zb_el h (fun hb h => zT_t hb ?_) (fun hb h => zT_f hb ?_)
    · refine zb_el h (fun hb h => zT_t hb ?_) (fun hb h => zT_f hb ?_)
      · refine zl_el h (fun h => zT_l ?_)
        refine zg_el h (fun hg h => zT_g hg ?_)
        refine zl_el h (fun h => zT_l ?_)
        refine zl_el h (fun h => zT_l ?_)
        have hz := zsi h hq
        refine (zO_mk ?_ ?_).trans hz
        · first | with_reducible rfl | (exact zuas_eq _ [(35, _), (36, _)] [(35, _), (36, _)] [35, 36] rfl rfl ⟨rfl, rfl, trivial⟩)
        · first | with_reducible rfl | (exact zufs_eq _ [(40, 4, _)] [(40, 2, _), (40, 3, _), (40, 4, _)] [(40, 2), (40, 3), (40, 4)] rfl rfl ⟨rfl, rfl, rfl, trivial⟩)
      · refine zl_el h (fun h => zT_l ?_)
        refine zl_el h (fun h => zT_l ?_)
        have hz := zsi h hq
        refine (zO_mk ?_ ?_).trans hz
        · first | with_reducible rfl | (exact zuas_eq _ [] [(35, _), (36, _)] [35, 36] rfl rfl ⟨rfl, rfl, trivial⟩)
        · first | with_reducible rfl | (exact zufs_eq _ [(40, 2, _), (40, 3, _)] [(40, 2, _), (40, 3, _), (40, 4, _)] [(40, 2), (40, 3), (40, 4)] rfl rfl ⟨rfl, rfl, rfl, trivial⟩)
    · refine zb_el h (fun hb h => zT_t hb ?_) (fun hb h => zT_f hb ?_)
      · refine zb_el h (fun hb h => zT_t hb ?_) (fun hb h => zT_f hb ?_)
        · refine zl_el h (fun h => zT_l ?_)
          refine zg_el h (fun hg h => zT_g hg ?_)
          refine zl_el h (fun h => zT_l ?_)
          refine zl_el h (fun h => zT_l ?_)
          have hz := zsi h hq
          refine (zO_mk ?_ ?_).trans hz
          · first | with_reducible rfl | (exact zuas_eq _ [(35, _), (36, _)] [(35, _), (36, _)] [35, 36] rfl rfl ⟨rfl, rfl, trivial⟩)
          · first | with_reducible rfl | (exact zufs_eq _ [(40, 4, _)] [(40, 2, _), (40, 3, _), (40, 4, _)] [(40, 2), (40, 3), (40, 4)] rfl rfl ⟨rfl, rfl, rfl, trivial⟩)
        · refine zl_el h (fun h => zT_l ?_)
          refine zl_el h (fun h => zT_l ?_)
          have hz := zsi h hq
          refine (zO_mk ?_ ?_).trans hz
          · first | with_reducible rfl | (exact zuas_eq _ [] [(35, _), (36, _)] [35, 36] rfl rfl ⟨rfl, rfl, trivial⟩)
          · first | with_reducible rfl | (exact zufs_eq _ [(40, 2, _), (40, 3, _)] [(40, 2, _), (40, 3, _), (40, 4, _)] [(40, 2), (40, 3), (40, 4)] rfl rfl ⟨rfl, rfl, rfl, trivial⟩)
      · refine zl_el h (fun h => zT_l ?_)
        refine zl_el h (fun h => zT_l ?_)
        have hz := zsi h hq
        refine (zO_mk ?_ ?_).trans hz
        · first | with_reducible rfl | (exact zuas_eq _ [] [(35, _), (36, _)] [35, 36] rfl rfl ⟨rfl, rfl, trivial⟩)
        · first | with_reducible rfl | (exact zufs_eq _ [(40, 2, _), (40, 3, _)] [(40, 2, _), (40, 3, _), (40, 4, _)] [(40, 2), (40, 3), (40, 4)] rfl rfl ⟨rfl, rfl, rfl, trivial⟩)
theorem ok_lr_readLetter (X : Nat × (Nat → Int32)) : zOkS X 50 S_lr_readLetter 2 := zOkS_new (zOkE_cons (ok_tx_sign X) (by decide) (zOkE_cons (ok_tx_fail X) (by decide) (zOkE_cons (ok_tx_skip X) (by decide) (zOkE_cons (ok_lw_beginRule X) (by decide) (zOkE_nil X 1))))) (by
  intro args g o h
  obtain ⟨ar, fi, m1, m2, m3, m4, m5⟩ := g
  unfold S_lr_readLetter P_lr_readLetter at h
  split at h
  · refine zb_el h (fun hI0 k0 => ?_) (fun _ h10 => ?_)
    · try simp only [Bool.and_eq_true] at hI0
      obtain ⟨⟨j0, j1⟩, j2⟩ := hI0
      have e0 := Nat.eq_of_beq_eq_true j0
      subst e0
      have e1 := Nat.eq_of_beq_eq_true j1
      subst e1
      have e9 : m3 = 1 := Nat.eq_of_beq_eq_true j2
      subst e9
      exact zpe_el k0 (fun t ht ho => e_lr_readLetter_39_23 t ht ho)
    · skip
      refine zb_el h10 (fun hI1 k1 => ?_) (fun _ h11 => ?_)
      · try simp only [Bool.and_eq_true] at hI1
        obtain ⟨⟨j0, j1⟩, j2⟩ := hI1
        have e0 := Nat.eq_of_beq_eq_true j0
        subst e0
        have e1 := Nat.eq_of_beq_eq_true j1
        subst e1
        have e9 : m3 = 1 := Nat.eq_of_beq_eq_true j2
        subst e9
        exact zpe_el k1 (fun t ht ho => e_lr_readLetter_39_31 t ht ho)
      · cases h11
  · cases h)
abbrev T_od_readWind : Type := Int32 × Int32 × Int32 × Int32
def q_od_readWind (a1 : Nat → Int32) (f16_8 : Int32) (f47_1 : Int32) (f47_2 : Int32) (f47_3 : Int32) (f47_4 : Int32) : Option T_od_readWind :=
  zl (f0_tx_skip (f47_4)) (fun v1 =>
  zg (g_tx_sign (f47_2) v1 (f47_1) a1) (
  zl (w_tx_sign (f47_2) v1 (f47_1) a1) (fun v2 =>
  bif decide (v2 < 48) then
   zl (f0_tx_fail 1 v1 (f47_2) (f47_3)) (fun v3 =>
   zl (f1_tx_fail 1 v1 (f47_2) (f47_3)) (fun v4 =>
   some (f16_8, v3, v4, v1)))
  else
   bif decide (51 < v2) then
    zl (f0_tx_fail 1 v1 (f47_2) (f47_3)) (fun v5 =>
    zl (f1_tx_fail 1 v1 (f47_2) (f47_3)) (fun v6 =>
    some (f16_8, v5, v6, v1)))
   else
    zl (f0_tx_skip v1) (fun v7 =>
    zg (g_od_endLine v7 (f47_1) (f47_2) a1 (f47_3)) (
    zl (f0_od_endLine v7 (f47_1) (f47_2) a1 (f47_3)) (fun v8 =>
    zl (f1_od_endLine v7 (f47_1) (f47_2) a1 (f47_3)) (fun v9 =>
    some (v2 - 48, v8, v9, v7))))))))
def P_od_readWind (Q : (Nat → Int32) → Int32 → Int32 → Int32 → Int32 → Int32 → Option (Int32 × Int32 × Int32 × Int32)) : zSp := fun as g => match as with
  | [.ref a, .ref b] => bif Nat.beq a 46 && Nat.beq b 16 && Nat.beq g.2.2.2.2.2.2 1 then zpe (Q (g.1 1) (g.2.1 16 8) (g.2.1 47 1) (g.2.1 47 2) (g.2.1 47 3) (g.2.1 47 4)) (fun t => (none, (g.1, (zuf (zuf (zuf (zuf g.2.1 16 8 t.1) 47 2 t.2.1) 47 3 t.2.2.1) 47 4 t.2.2.2), g.2.2))) else none
  | _ => none
noncomputable abbrev S_od_readWind : zSp := P_od_readWind q_od_readWind
def O_od_readWind (ar fi : Nat → Nat → Int32) (m1 : Nat) (m2 : Nat) (m3 : Nat) (m4 : Nat) (t : T_od_readWind) : zO2 := (none, (ar, (zuf (zuf (zuf (zuf fi 16 8 t.1) 47 2 t.2.1) 47 3 t.2.2.1) 47 4 t.2.2.2), (m1, m2, m3, m4, 1)))
set_option maxRecDepth 20000 in
theorem t_od_readWind {X : Nat × (Nat → Int32)} {ar fi : Nat → Nat → Int32} {m1 m2 m3 m4 : Nat} {F0_tx_skip : Int32 → Int32} {G_tx_sign : Int32 → Int32 → Int32 → (Nat → Int32) → Bool} {W_tx_sign : Int32 → Int32 → Int32 → (Nat → Int32) → Int32} {G_od_endLine : Int32 → Int32 → Int32 → (Nat → Int32) → Int32 → Bool} {F0_od_endLine : Int32 → Int32 → Int32 → (Nat → Int32) → Int32 → Int32} {F1_od_endLine : Int32 → Int32 → Int32 → (Nat → Int32) → Int32 → Int32} {F0_tx_fail : Int32 → Int32 → Int32 → Int32 → Int32} {F1_tx_fail : Int32 → Int32 → Int32 → Int32 → Int32} : zseg X zFT (zEx 95 (P_tx_skip F0_tx_skip) (zEx 93 (P_tx_sign G_tx_sign W_tx_sign) (zEx 65 (P_od_endLine G_od_endLine F0_od_endLine F1_od_endLine) (zEx 97 (P_tx_fail F0_tx_fail F1_tx_fail) zE0)))) zc_60 (fun p => false) 400 0 [.ref 46, .ref 16] [] (ar, fi, (m1, m2, m3, m4, 1)) = (
  zl (F0_tx_skip (fi 47 4)) (fun v1 =>
  zg (G_tx_sign (fi 47 2) v1 (fi 47 1) (ar 1)) (
  zl (W_tx_sign (fi 47 2) v1 (fi 47 1) (ar 1)) (fun v2 =>
  bif decide (v2 < 48) then
   zl (F0_tx_fail 1 v1 (fi 47 2) (fi 47 3)) (fun v3 =>
   zl (F1_tx_fail 1 v1 (fi 47 2) (fi 47 3)) (fun v4 =>
   some (.inr (none, (ar, (zuf (zuf (zuf fi 47 4 v1) 47 2 v3) 47 3 v4), (m1, m2, m3, m4, 1))))))
  else
   bif decide (51 < v2) then
    zl (F0_tx_fail 1 v1 (fi 47 2) (fi 47 3)) (fun v5 =>
    zl (F1_tx_fail 1 v1 (fi 47 2) (fi 47 3)) (fun v6 =>
    some (.inr (none, (ar, (zuf (zuf (zuf fi 47 4 v1) 47 2 v5) 47 3 v6), (m1, m2, m3, m4, 1))))))
   else
    zl (F0_tx_skip v1) (fun v7 =>
    zg (G_od_endLine v7 (fi 47 1) (fi 47 2) (ar 1) (fi 47 3)) (
    zl (F0_od_endLine v7 (fi 47 1) (fi 47 2) (ar 1) (fi 47 3)) (fun v8 =>
    zl (F1_od_endLine v7 (fi 47 1) (fi 47 2) (ar 1) (fi 47 3)) (fun v9 =>
    some (.inr (none, (ar, (zuf (zuf (zuf (zuf (zuf fi 47 4 v1) 16 8 (v2 - 48)) 47 4 v7) 47 2 v8) 47 3 v9), (m1, m2, m3, m4, 1))))))))))) : Option ((Nat × List Value × List Value × zH2) ⊕ zO2)) := rfl
theorem e_od_readWind {X : Nat × (Nat → Int32)} {ar fi : Nat → Nat → Int32} {m1 m2 m3 m4 : Nat} {o : zO2} : ∀ (q : T_od_readWind), q_od_readWind (ar 1) (fi 16 8) (fi 47 1) (fi 47 2) (fi 47 3) (fi 47 4) = some q → (fun t => O_od_readWind ar fi m1 m2 m3 m4 t = o) q → zR2 X zFT (zEx 95 S_tx_skip (zEx 93 S_tx_sign (zEx 65 S_od_endLine (zEx 97 S_tx_fail zE0)))) zc_60 0 [.ref 46, .ref 16] [] (ar, fi, (m1, m2, m3, m4, 1)) o := by
  intro q h hq
  unfold q_od_readWind at h
  refine zT_seg t_od_readWind ?_
  refine zl_el h (fun h => zT_l ?_)
  refine zg_el h (fun hg h => zT_g hg ?_)
  refine zl_el h (fun h => zT_l ?_)
  refine zb_el h (fun hb h => zT_t hb ?_) (fun hb h => zT_f hb ?_)
  · refine zl_el h (fun h => zT_l ?_)
    refine zl_el h (fun h => zT_l ?_)
    have hz := zsi h hq
    refine (zO_mk ?_ ?_).trans hz
    · first | with_reducible rfl | (rfl)
    · first | with_reducible rfl | (exact zufs_eq _ [(47, 4, _), (47, 2, _), (47, 3, _)] [(16, 8, _), (47, 2, _), (47, 3, _), (47, 4, _)] [(16, 8), (47, 2), (47, 3), (47, 4)] rfl rfl ⟨rfl, rfl, rfl, rfl, trivial⟩)
  · refine zb_el h (fun hb h => zT_t hb ?_) (fun hb h => zT_f hb ?_)
    · refine zl_el h (fun h => zT_l ?_)
      refine zl_el h (fun h => zT_l ?_)
      have hz := zsi h hq
      refine (zO_mk ?_ ?_).trans hz
      · first | with_reducible rfl | (rfl)
      · first | with_reducible rfl | (exact zufs_eq _ [(47, 4, _), (47, 2, _), (47, 3, _)] [(16, 8, _), (47, 2, _), (47, 3, _), (47, 4, _)] [(16, 8), (47, 2), (47, 3), (47, 4)] rfl rfl ⟨rfl, rfl, rfl, rfl, trivial⟩)
    · refine zl_el h (fun h => zT_l ?_)
      refine zg_el h (fun hg h => zT_g hg ?_)
      refine zl_el h (fun h => zT_l ?_)
      refine zl_el h (fun h => zT_l ?_)
      have hz := zsi h hq
      refine (zO_mk ?_ ?_).trans hz
      · first | with_reducible rfl | (rfl)
      · first | with_reducible rfl | (exact zufs_eq _ [(47, 4, _), (16, 8, _), (47, 4, _), (47, 2, _), (47, 3, _)] [(16, 8, _), (47, 2, _), (47, 3, _), (47, 4, _)] [(16, 8), (47, 2), (47, 3), (47, 4)] rfl rfl ⟨rfl, rfl, rfl, rfl, trivial⟩)
theorem ok_od_readWind (X : Nat × (Nat → Int32)) : zOkS X 60 S_od_readWind 3 := zOkS_new (zOkE_cons (ok_tx_skip X) (by decide) (zOkE_cons (ok_tx_sign X) (by decide) (zOkE_cons (ok_od_endLine X) (by decide) (zOkE_cons (ok_tx_fail X) (by decide) (zOkE_nil X 2))))) (by
  intro args g o h
  obtain ⟨ar, fi, m1, m2, m3, m4, m5⟩ := g
  unfold S_od_readWind P_od_readWind at h
  split at h
  · refine zb_el h (fun hI0 k0 => ?_) (fun _ h10 => ?_)
    · try simp only [Bool.and_eq_true] at hI0
      obtain ⟨⟨j0, j1⟩, j2⟩ := hI0
      have e0 := Nat.eq_of_beq_eq_true j0
      subst e0
      have e1 := Nat.eq_of_beq_eq_true j1
      subst e1
      have e9 : m5 = 1 := Nat.eq_of_beq_eq_true j2
      subst e9
      exact zpe_el k0 (fun t ht ho => e_od_readWind t ht ho)
    · cases h10
  · cases h)
abbrev T_od_tellThing : Type := (Nat → Int32) × Int32 × Int32
def q_od_tellThing (y : Int32) (z : Int32) (a20 : Nat → Int32) (f16_6 : Int32) (f16_7 : Int32) (f47_2 : Int32) : Option T_od_tellThing :=
  zl (w_tx_isGood (f47_2)) (fun v1 =>
  bif decide (v1 = 0) then
   some (a20, f16_6, f16_7)
  else
   zg (g_if_isNumber z) (
   zl (w_if_isNumber z) (fun v2 =>
   bif decide (v2 = 0) then
    some (a20, f16_6, f16_7)
   else
    zg (zin y 24) (
    some ((zup a20 (y.toNatClampNeg) z), (f16_6) ||| (1 <<< (y &&& 31)), (f16_7) &&& ((1 <<< (y &&& 31)) ^^^ (-1)))))))
def P_od_tellThing (Q : Int32 → Int32 → (Nat → Int32) → Int32 → Int32 → Int32 → Option ((Nat → Int32) × Int32 × Int32)) : zSp := fun as g => match as with
  | [.ref a, .ref b, .int y, .int z] => bif Nat.beq a 46 && Nat.beq b 16 && Nat.beq g.2.2.2.2.2.2 1 then zpe (Q y z (g.1 20) (g.2.1 16 6) (g.2.1 16 7) (g.2.1 47 2)) (fun t => (none, ((zua g.1 20 t.1), (zuf (zuf g.2.1 16 6 t.2.1) 16 7 t.2.2), g.2.2))) else none
  | _ => none
noncomputable abbrev S_od_tellThing : zSp := P_od_tellThing q_od_tellThing
def O_od_tellThing (ar fi : Nat → Nat → Int32) (m1 : Nat) (m2 : Nat) (m3 : Nat) (m4 : Nat) (t : T_od_tellThing) : zO2 := (none, ((zua ar 20 t.1), (zuf (zuf fi 16 6 t.2.1) 16 7 t.2.2), (m1, m2, m3, m4, 1)))
set_option maxRecDepth 20000 in
theorem t_od_tellThing {X : Nat × (Nat → Int32)} {ar fi : Nat → Nat → Int32} {m1 m2 m3 m4 : Nat} {y z : Int32} {W_tx_isGood : Int32 → Int32} {G_if_isNumber : Int32 → Bool} {W_if_isNumber : Int32 → Int32} : zseg X zFT (zEx 91 (P_tx_isGood W_tx_isGood) (zEx 138 (P_if_isNumber G_if_isNumber W_if_isNumber) zE0)) zc_62 (fun p => false) 400 0 [.ref 46, .ref 16, .int y, .int z] [] (ar, fi, (m1, m2, m3, m4, 1)) = (
  zl (W_tx_isGood (fi 47 2)) (fun v1 =>
  bif decide (v1 = 0) then
   some (.inr (none, (ar, fi, (m1, m2, m3, m4, 1))))
  else
   zg (G_if_isNumber z) (
   zl (W_if_isNumber z) (fun v2 =>
   bif decide (v2 = 0) then
    some (.inr (none, (ar, fi, (m1, m2, m3, m4, 1))))
   else
    zg (zin y 24) (
    some (.inr (none, ((zua ar 20 (zup (ar 20) (y.toNatClampNeg) z)), (zuf (zuf fi 16 6 ((fi 16 6) ||| (1 <<< (y &&& 31)))) 16 7 ((fi 16 7) &&& ((1 <<< (y &&& 31)) ^^^ (-1)))), (m1, m2, m3, m4, 1)))))))) : Option ((Nat × List Value × List Value × zH2) ⊕ zO2)) := rfl
theorem e_od_tellThing {X : Nat × (Nat → Int32)} {ar fi : Nat → Nat → Int32} {m1 m2 m3 m4 : Nat} {y z : Int32} {o : zO2} : ∀ (q : T_od_tellThing), q_od_tellThing y z (ar 20) (fi 16 6) (fi 16 7) (fi 47 2) = some q → (fun t => O_od_tellThing ar fi m1 m2 m3 m4 t = o) q → zR2 X zFT (zEx 91 S_tx_isGood (zEx 138 S_if_isNumber zE0)) zc_62 0 [.ref 46, .ref 16, .int y, .int z] [] (ar, fi, (m1, m2, m3, m4, 1)) o := by
  intro q h hq
  unfold q_od_tellThing at h
  refine zT_seg t_od_tellThing ?_
  refine zl_el h (fun h => zT_l ?_)
  refine zb_el h (fun hb h => zT_t hb ?_) (fun hb h => zT_f hb ?_)
  · have hz := zsi h hq
    refine (zO_mk ?_ ?_).trans hz
    · first | with_reducible rfl | (exact zuas_eq _ [] [(20, _)] [20] rfl rfl ⟨rfl, trivial⟩)
    · first | with_reducible rfl | (exact zufs_eq _ [] [(16, 6, _), (16, 7, _)] [(16, 6), (16, 7)] rfl rfl ⟨rfl, rfl, trivial⟩)
  · refine zg_el h (fun hg h => zT_g hg ?_)
    refine zl_el h (fun h => zT_l ?_)
    refine zb_el h (fun hb h => zT_t hb ?_) (fun hb h => zT_f hb ?_)
    · have hz := zsi h hq
      refine (zO_mk ?_ ?_).trans hz
      · first | with_reducible rfl | (exact zuas_eq _ [] [(20, _)] [20] rfl rfl ⟨rfl, trivial⟩)
      · first | with_reducible rfl | (exact zufs_eq _ [] [(16, 6, _), (16, 7, _)] [(16, 6), (16, 7)] rfl rfl ⟨rfl, rfl, trivial⟩)
    · refine zg_el h (fun hg h => zT_g hg ?_)
      have hz := zsi h hq
      refine (zO_mk ?_ ?_).trans hz
      · first | with_reducible rfl | (exact zuas_eq _ [(20, _)] [(20, _)] [20] rfl rfl ⟨rfl, trivial⟩)
      · first | with_reducible rfl | (exact zufs_eq _ [(16, 6, _), (16, 7, _)] [(16, 6, _), (16, 7, _)] [(16, 6), (16, 7)] rfl rfl ⟨rfl, rfl, trivial⟩)
theorem ok_od_tellThing (X : Nat × (Nat → Int32)) : zOkS X 62 S_od_tellThing 3 := zOkS_new (zOkE_cons (ok_tx_isGood X) (by decide) (zOkE_cons (ok_if_isNumber X) (by decide) (zOkE_nil X 2))) (by
  intro args g o h
  obtain ⟨ar, fi, m1, m2, m3, m4, m5⟩ := g
  unfold S_od_tellThing P_od_tellThing at h
  split at h
  · refine zb_el h (fun hI0 k0 => ?_) (fun _ h10 => ?_)
    · try simp only [Bool.and_eq_true] at hI0
      obtain ⟨⟨j0, j1⟩, j2⟩ := hI0
      have e0 := Nat.eq_of_beq_eq_true j0
      subst e0
      have e1 := Nat.eq_of_beq_eq_true j1
      subst e1
      have e9 : m5 = 1 := Nat.eq_of_beq_eq_true j2
      subst e9
      exact zpe_el k0 (fun t ht ho => e_od_tellThing t ht ho)
    · cases h10
  · cases h)
