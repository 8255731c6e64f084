abbrev T_md_reckonsTo : Type := Int32 × (Nat → Int32)
abbrev U_md_reckonsTo_16 : Type := Int32 × Int32 × (Nat → Int32)
def b_md_reckonsTo_16 (y : Int32) (a77 : Nat → Int32) (a83 : Nat → Int32) (l4 : Int32) (l3 : Int32) (l5 : Int32) (b82 : Nat → Int32) : Option (U_md_reckonsTo_16 ⊕ T_md_reckonsTo) :=
  bif decide (y ≤ l5) then
   zg (zin 0 260) (
   some (.inr (b82 ((0 : Int32).toNatClampNeg), b82)))
  else
   zg (zin l5 260) (
   zg (zin l5 260) (
   bif decide ((a77 (l5.toNatClampNeg)) / 1048576 = 0) then
    bif !decide ((a77 (l5.toNatClampNeg)) / 1048576 = 0) then
     zg (zin ((a77 (l5.toNatClampNeg)) - (a77 (l5.toNatClampNeg)) / 1048576 * 1048576) 9) (
     zg (zin l3 260) (
     some (.inl (l3 + 1, l5 + 1, (zup b82 (l3.toNatClampNeg) (a83 (((a77 (l5.toNatClampNeg)) - (a77 (l5.toNatClampNeg)) / 1048576 * 1048576).toNatClampNeg)))))))
    else
     zg (zin l3 260) (
     some (.inl (l3 + 1, l5 + 1, (zup b82 (l3.toNatClampNeg) ((a77 (l5.toNatClampNeg)) - (a77 (l5.toNatClampNeg)) / 1048576 * 1048576)))))
   else
    bif !decide ((a77 (l5.toNatClampNeg)) / 1048576 = 1) then
     bif !decide ((a77 (l5.toNatClampNeg)) / 1048576 = 10) then
      bif decide ((a77 (l5.toNatClampNeg)) / 1048576 = 11) then
       zg (zin (l3 - 1) 260) (
       bif !decide ((a77 (l5.toNatClampNeg)) / 1048576 = 12) then
        bif !decide (b82 ((l3 - 1).toNatClampNeg) = 0) then
         some (.inl (l3 - 1, l5 + 1, b82))
        else
         some (.inl (l3, l4 + ((a77 (l5.toNatClampNeg)) - (a77 (l5.toNatClampNeg)) / 1048576 * 1048576), b82))
       else
        bif !decide (b82 ((l3 - 1).toNatClampNeg) = 1) then
         some (.inl (l3 - 1, l5 + 1, b82))
        else
         some (.inl (l3, l4 + ((a77 (l5.toNatClampNeg)) - (a77 (l5.toNatClampNeg)) / 1048576 * 1048576), b82)))
      else
       bif !decide ((a77 (l5.toNatClampNeg)) / 1048576 = 12) then
        bif decide ((a77 (l5.toNatClampNeg)) / 1048576 = 5) then
         zg (zin (l3 - 1) 260) (
         bif !decide (b82 ((l3 - 1).toNatClampNeg) = 0) then
          zg (zin ((l3 - 1) - 1) 260) (
          zg (zin (l3 - 1) 260) (
          zg (g_md_reckon ((a77 (l5.toNatClampNeg)) / 1048576) (b82 (((l3 - 1) - 1).toNatClampNeg)) (b82 ((l3 - 1).toNatClampNeg))) (
          zl (w_md_reckon ((a77 (l5.toNatClampNeg)) / 1048576) (b82 (((l3 - 1) - 1).toNatClampNeg)) (b82 ((l3 - 1).toNatClampNeg))) (fun v1 =>
          zg (zin ((l3 - 1) - 1) 260) (
          some (.inl (l3 - 1, l5 + 1, (zup b82 (((l3 - 1) - 1).toNatClampNeg) v1))))))))
         else
          some (.inr (0, b82)))
        else
         bif !decide ((a77 (l5.toNatClampNeg)) / 1048576 = 6) then
          zg (zin ((l3 - 1) - 1) 260) (
          zg (zin (l3 - 1) 260) (
          zg (g_md_reckon ((a77 (l5.toNatClampNeg)) / 1048576) (b82 (((l3 - 1) - 1).toNatClampNeg)) (b82 ((l3 - 1).toNatClampNeg))) (
          zl (w_md_reckon ((a77 (l5.toNatClampNeg)) / 1048576) (b82 (((l3 - 1) - 1).toNatClampNeg)) (b82 ((l3 - 1).toNatClampNeg))) (fun v2 =>
          zg (zin ((l3 - 1) - 1) 260) (
          some (.inl (l3 - 1, l5 + 1, (zup b82 (((l3 - 1) - 1).toNatClampNeg) v2))))))))
         else
          zg (zin (l3 - 1) 260) (
          bif !decide (b82 ((l3 - 1).toNatClampNeg) = 0) then
           zg (zin ((l3 - 1) - 1) 260) (
           zg (zin (l3 - 1) 260) (
           zg (g_md_reckon ((a77 (l5.toNatClampNeg)) / 1048576) (b82 (((l3 - 1) - 1).toNatClampNeg)) (b82 ((l3 - 1).toNatClampNeg))) (
           zl (w_md_reckon ((a77 (l5.toNatClampNeg)) / 1048576) (b82 (((l3 - 1) - 1).toNatClampNeg)) (b82 ((l3 - 1).toNatClampNeg))) (fun v3 =>
           zg (zin ((l3 - 1) - 1) 260) (
           some (.inl (l3 - 1, l5 + 1, (zup b82 (((l3 - 1) - 1).toNatClampNeg) v3))))))))
          else
           some (.inr (0, b82)))
       else
        zg (zin (l3 - 1) 260) (
        bif !decide ((a77 (l5.toNatClampNeg)) / 1048576 = 12) then
         bif !decide (b82 ((l3 - 1).toNatClampNeg) = 0) then
          some (.inl (l3 - 1, l5 + 1, b82))
         else
          some (.inl (l3, l4 + ((a77 (l5.toNatClampNeg)) - (a77 (l5.toNatClampNeg)) / 1048576 * 1048576), b82))
        else
         bif !decide (b82 ((l3 - 1).toNatClampNeg) = 1) then
          some (.inl (l3 - 1, l5 + 1, b82))
         else
          some (.inl (l3, l4 + ((a77 (l5.toNatClampNeg)) - (a77 (l5.toNatClampNeg)) / 1048576 * 1048576), b82)))
     else
      zg (zin (l3 - 1) 260) (
      zg (zin (l3 - 1) 260) (
      some (.inl (l3, l5 + 1, (zup b82 ((l3 - 1).toNatClampNeg) (1 - (b82 ((l3 - 1).toNatClampNeg))))))))
    else
     bif !decide ((a77 (l5.toNatClampNeg)) / 1048576 = 0) then
      zg (zin ((a77 (l5.toNatClampNeg)) - (a77 (l5.toNatClampNeg)) / 1048576 * 1048576) 9) (
      zg (zin l3 260) (
      some (.inl (l3 + 1, l5 + 1, (zup b82 (l3.toNatClampNeg) (a83 (((a77 (l5.toNatClampNeg)) - (a77 (l5.toNatClampNeg)) / 1048576 * 1048576).toNatClampNeg)))))))
     else
      zg (zin l3 260) (
      some (.inl (l3 + 1, l5 + 1, (zup b82 (l3.toNatClampNeg) ((a77 (l5.toNatClampNeg)) - (a77 (l5.toNatClampNeg)) / 1048576 * 1048576)))))))
def f_md_reckonsTo_16 (y : Int32) (a77 : Nat → Int32) (a83 : Nat → Int32) (l4 : Int32) : U_md_reckonsTo_16 → Option (U_md_reckonsTo_16 ⊕ T_md_reckonsTo) := fun s => b_md_reckonsTo_16 y a77 a83 l4 s.1 s.2.1 s.2.2
noncomputable def l_md_reckonsTo_16 (y : Int32) (a77 : Nat → Int32) (a83 : Nat → Int32) (l4 : Int32) (l3 : Int32) (l5 : Int32) (b82 : Nat → Int32) : Option T_md_reckonsTo := zlp (f_md_reckonsTo_16 y a77 a83 l4) (l3, l5, b82)
noncomputable def q_md_reckonsTo (x : Int32) (y : Int32) (a77 : Nat → Int32) (a82 : Nat → Int32) (a83 : Nat → Int32) : Option T_md_reckonsTo :=
  l_md_reckonsTo_16 y a77 a83 (260 * (x / 260)) 0 x a82
def P_md_reckonsTo (Q : Int32 → Int32 → (Nat → Int32) → (Nat → Int32) → (Nat → Int32) → Option (Int32 × (Nat → Int32))) : zSp := fun as g => match as with
  | [.ref a, .int x, .int y] => bif Nat.beq a 64 then zpe (Q x y (g.1 77) (g.1 82) (g.1 83)) (fun t => (some (.int (t.1)), ((zua g.1 82 t.2), g.2.1, g.2.2))) else none
  | _ => none
noncomputable abbrev S_md_reckonsTo : zSp := P_md_reckonsTo q_md_reckonsTo
theorem hA2_md_reckonsTo (F : Nat → Nat → Int32) : F = (zua F 82 (F 82)) := zuak_ix F [] [(82, none)] rfl
theorem hA1_md_reckonsTo (F : Nat → Nat → Int32) (w0 w1 : Nat → Int32) : (zua (zua F 82 w0) 82 w1) = (zua F 82 w1) := zuak_ix F [(82, w0), (82, w1)] [(82, some 1)] rfl
theorem hA0_md_reckonsTo (F : Nat → Nat → Int32) (w0 : Nat → Int32) : (zua F 82 w0) = (zua F 82 w0) := zuak_ix F [(82, w0)] [(82, some 0)] rfl
def O_md_reckonsTo (ar fi : Nat → Nat → Int32) (m1 : Nat) (m2 : Nat) (m3 : Nat) (m4 : Nat) (m5 : Nat) (t : T_md_reckonsTo) : zO2 := match t with
  | (t0, t1) => (some (.int (t0)), ((zua ar 82 t1), fi, (m1, m2, m3, m4, m5)))
def M_md_reckonsTo_16 (X : Nat × (Nat → Int32)) (E : zTE) (ar fi : Nat → Nat → Int32) (m1 : Nat) (m2 : Nat) (m3 : Nat) (m4 : Nat) (m5 : Nat) (x : Int32) (y : Int32) (l4 : Int32) (o : zO2) (s : U_md_reckonsTo_16) : Prop := match s with
  | (l3, l5, b82) => zR2 X zFT E zc_181 16 [.ref 64, .int x, .int y, .int l3, .int l4, .int l5] [] ((zua ar 82 b82), fi, (m1, m2, m3, m4, m5)) o
set_option maxRecDepth 1000000 in
theorem t16_md_reckonsTo {X : Nat × (Nat → Int32)} {ar fi : Nat → Nat → Int32} {m1 m2 m3 m4 m5 : Nat} {x y : Int32} {l3 : Int32} {l4 : Int32} {l5 : Int32} {b82 : Nat → Int32} {G_md_reckon : Int32 → Int32 → Int32 → Bool} {W_md_reckon : Int32 → Int32 → Int32 → Int32} : zseg X zFT (zEx 180 (P_md_reckon G_md_reckon W_md_reckon) zE0) zc_181 (fun p => Nat.beq p 16 || Nat.beq p 34 || Nat.beq p 46 || Nat.beq p 93 || Nat.beq p 121 || Nat.beq p 175) 400 16 [.ref 64, .int x, .int y, .int l3, .int l4, .int l5] [] ((zua ar 82 b82), fi, (m1, m2, m3, m4, m5)) = (
  bif decide (y ≤ l5) then
   zg (Nat.beq 16 16 && (zin 0 260)) (
   some (.inr (some (.int (b82 ((0 : Int32).toNatClampNeg))), ((zua ar 82 b82), fi, (m1, m2, m3, m4, m5)))))
  else
   zg (Nat.beq 16 16 && (zin l5 260)) (
   zg (!decide ((1048576 : Int32) = 0)) (
   some (.inl (34, [.ref 64, .int x, .int y, .int l3, .int l4, .int l5, .int (((ar 77) (l5.toNatClampNeg)) / 1048576)], [], ((zua ar 82 b82), fi, (m1, m2, m3, m4, m5)))))) : Option ((Nat × List Value × List Value × zH2) ⊕ zO2)) := rfl
set_option maxRecDepth 1000000 in
theorem t16c34_md_reckonsTo {X : Nat × (Nat → Int32)} {ar fi : Nat → Nat → Int32} {m1 m2 m3 m4 m5 : Nat} {x y : Int32} {l3 : Int32} {l4 : Int32} {l5 : Int32} {l6 : Int32} {b82 : Nat → Int32} {G_md_reckon : Int32 → Int32 → Int32 → Bool} {W_md_reckon : Int32 → Int32 → Int32 → Int32} : zseg X zFT (zEx 180 (P_md_reckon G_md_reckon W_md_reckon) zE0) zc_181 (fun p => Nat.beq p 16 || Nat.beq p 34 || Nat.beq p 46 || Nat.beq p 93 || Nat.beq p 121 || Nat.beq p 175) 400 34 [.ref 64, .int x, .int y, .int l3, .int l4, .int l5, .int l6] [] ((zua ar 82 b82), fi, (m1, m2, m3, m4, m5)) = (
  zg (Nat.beq 16 16 && (zin l5 260)) (
  zg (!decide ((1048576 : Int32) = 0)) (
  some (.inl (46, [.ref 64, .int x, .int y, .int l3, .int l4, .int l5, .int l6, .int (((ar 77) (l5.toNatClampNeg)) - ((ar 77) (l5.toNatClampNeg)) / 1048576 * 1048576)], [], ((zua ar 82 b82), fi, (m1, m2, m3, m4, m5)))))) : Option ((Nat × List Value × List Value × zH2) ⊕ zO2)) := rfl
set_option maxRecDepth 1000000 in
theorem t16c46_md_reckonsTo {X : Nat × (Nat → Int32)} {ar fi : Nat → Nat → Int32} {m1 m2 m3 m4 m5 : Nat} {x y : Int32} {l3 : Int32} {l4 : Int32} {l5 : Int32} {l6 : Int32} {l7 : Int32} {b82 : Nat → Int32} {G_md_reckon : Int32 → Int32 → Int32 → Bool} {W_md_reckon : Int32 → Int32 → Int32 → Int32} : zseg X zFT (zEx 180 (P_md_reckon G_md_reckon W_md_reckon) zE0) zc_181 (fun p => Nat.beq p 16 || Nat.beq p 34 || Nat.beq p 46 || Nat.beq p 93 || Nat.beq p 121 || Nat.beq p 175) 400 46 [.ref 64, .int x, .int y, .int l3, .int l4, .int l5, .int l6, .int l7] [] ((zua ar 82 b82), fi, (m1, m2, m3, m4, m5)) = (
  bif decide (l6 = 0) then
   bif !decide (l6 = 0) then
    zg (Nat.beq 16 16 && (zin l7 9)) (
    zg (Nat.beq 16 16 && (zin l3 260)) (
    some (.inl (16, [.ref 64, .int x, .int y, .int (l3 + 1), .int l4, .int (l5 + 1)], [], ((zua (zua ar 82 b82) 82 (zup b82 (l3.toNatClampNeg) ((ar 83) (l7.toNatClampNeg)))), fi, (m1, m2, m3, m4, m5))))))
   else
    zg (Nat.beq 16 16 && (zin l3 260)) (
    some (.inl (16, [.ref 64, .int x, .int y, .int (l3 + 1), .int l4, .int (l5 + 1)], [], ((zua (zua ar 82 b82) 82 (zup b82 (l3.toNatClampNeg) l7)), fi, (m1, m2, m3, m4, m5)))))
  else
   bif !decide (l6 = 1) then
    some (.inl (93, [.ref 64, .int x, .int y, .int l3, .int l4, .int (l5 + 1), .int l6, .int l7], [], ((zua ar 82 b82), fi, (m1, m2, m3, m4, m5))))
   else
    bif !decide (l6 = 0) then
     zg (Nat.beq 16 16 && (zin l7 9)) (
     zg (Nat.beq 16 16 && (zin l3 260)) (
     some (.inl (16, [.ref 64, .int x, .int y, .int (l3 + 1), .int l4, .int (l5 + 1)], [], ((zua (zua ar 82 b82) 82 (zup b82 (l3.toNatClampNeg) ((ar 83) (l7.toNatClampNeg)))), fi, (m1, m2, m3, m4, m5))))))
    else
     zg (Nat.beq 16 16 && (zin l3 260)) (
     some (.inl (16, [.ref 64, .int x, .int y, .int (l3 + 1), .int l4, .int (l5 + 1)], [], ((zua (zua ar 82 b82) 82 (zup b82 (l3.toNatClampNeg) l7)), fi, (m1, m2, m3, m4, m5))))) : Option ((Nat × List Value × List Value × zH2) ⊕ zO2)) := by with_unfolding_all rfl
set_option maxRecDepth 1000000 in
theorem t16c93_md_reckonsTo {X : Nat × (Nat → Int32)} {ar fi : Nat → Nat → Int32} {m1 m2 m3 m4 m5 : Nat} {x y : Int32} {l3 : Int32} {l4 : Int32} {l5 : Int32} {l6 : Int32} {l7 : Int32} {b82 : Nat → Int32} {G_md_reckon : Int32 → Int32 → Int32 → Bool} {W_md_reckon : Int32 → Int32 → Int32 → Int32} : zseg X zFT (zEx 180 (P_md_reckon G_md_reckon W_md_reckon) zE0) zc_181 (fun p => Nat.beq p 16 || Nat.beq p 34 || Nat.beq p 46 || Nat.beq p 93 || Nat.beq p 121 || Nat.beq p 175) 400 93 [.ref 64, .int x, .int y, .int l3, .int l4, .int l5, .int l6, .int l7] [] ((zua ar 82 b82), fi, (m1, m2, m3, m4, m5)) = (
  bif !decide (l6 = 10) then
   some (.inl (121, [.ref 64, .int x, .int y, .int l3, .int l4, .int l5, .int l6, .int l7], [], ((zua ar 82 b82), fi, (m1, m2, m3, m4, m5))))
  else
   zg (Nat.beq 16 16 && (zin (l3 - 1) 260)) (
   zg (Nat.beq 16 16 && (zin (l3 - 1) 260)) (
   some (.inl (16, [.ref 64, .int x, .int y, .int l3, .int l4, .int l5], [], ((zua (zua ar 82 b82) 82 (zup b82 ((l3 - 1).toNatClampNeg) (1 - (b82 ((l3 - 1).toNatClampNeg))))), fi, (m1, m2, m3, m4, m5)))))) : Option ((Nat × List Value × List Value × zH2) ⊕ zO2)) := by with_unfolding_all rfl
set_option maxRecDepth 1000000 in
theorem t16c121_md_reckonsTo {X : Nat × (Nat → Int32)} {ar fi : Nat → Nat → Int32} {m1 m2 m3 m4 m5 : Nat} {x y : Int32} {l3 : Int32} {l4 : Int32} {l5 : Int32} {l6 : Int32} {l7 : Int32} {b82 : Nat → Int32} {G_md_reckon : Int32 → Int32 → Int32 → Bool} {W_md_reckon : Int32 → Int32 → Int32 → Int32} : zseg X zFT (zEx 180 (P_md_reckon G_md_reckon W_md_reckon) zE0) zc_181 (fun p => Nat.beq p 16 || Nat.beq p 34 || Nat.beq p 46 || Nat.beq p 93 || Nat.beq p 121 || Nat.beq p 175) 400 121 [.ref 64, .int x, .int y, .int l3, .int l4, .int l5, .int l6, .int l7] [] ((zua ar 82 b82), fi, (m1, m2, m3, m4, m5)) = (
  bif decide (l6 = 11) then
   zg (Nat.beq 16 16 && (zin (l3 - 1) 260)) (
   bif !decide (l6 = 12) then
    bif !decide (b82 ((l3 - 1).toNatClampNeg) = 0) then
     some (.inl (16, [.ref 64, .int x, .int y, .int (l3 - 1), .int l4, .int l5], [], ((zua ar 82 b82), fi, (m1, m2, m3, m4, m5))))
    else
     some (.inl (16, [.ref 64, .int x, .int y, .int l3, .int l4, .int (l4 + l7)], [], ((zua ar 82 b82), fi, (m1, m2, m3, m4, m5))))
   else
    bif !decide (b82 ((l3 - 1).toNatClampNeg) = 1) then
     some (.inl (16, [.ref 64, .int x, .int y, .int (l3 - 1), .int l4, .int l5], [], ((zua ar 82 b82), fi, (m1, m2, m3, m4, m5))))
    else
     some (.inl (16, [.ref 64, .int x, .int y, .int l3, .int l4, .int (l4 + l7)], [], ((zua ar 82 b82), fi, (m1, m2, m3, m4, m5)))))
  else
   bif !decide (l6 = 12) then
    some (.inl (175, [.ref 64, .int x, .int y, .int l3, .int l4, .int l5, .int l6, .int l7], [], ((zua ar 82 b82), fi, (m1, m2, m3, m4, m5))))
   else
    zg (Nat.beq 16 16 && (zin (l3 - 1) 260)) (
    bif !decide (l6 = 12) then
     bif !decide (b82 ((l3 - 1).toNatClampNeg) = 0) then
      some (.inl (16, [.ref 64, .int x, .int y, .int (l3 - 1), .int l4, .int l5], [], ((zua ar 82 b82), fi, (m1, m2, m3, m4, m5))))
     else
      some (.inl (16, [.ref 64, .int x, .int y, .int l3, .int l4, .int (l4 + l7)], [], ((zua ar 82 b82), fi, (m1, m2, m3, m4, m5))))
    else
     bif !decide (b82 ((l3 - 1).toNatClampNeg) = 1) then
      some (.inl (16, [.ref 64, .int x, .int y, .int (l3 - 1), .int l4, .int l5], [], ((zua ar 82 b82), fi, (m1, m2, m3, m4, m5))))
     else
      some (.inl (16, [.ref 64, .int x, .int y, .int l3, .int l4, .int (l4 + l7)], [], ((zua ar 82 b82), fi, (m1, m2, m3, m4, m5))))) : Option ((Nat × List Value × List Value × zH2) ⊕ zO2)) := by with_unfolding_all rfl
set_option maxRecDepth 1000000 in
theorem t16c175_md_reckonsTo {X : Nat × (Nat → Int32)} {ar fi : Nat → Nat → Int32} {m1 m2 m3 m4 m5 : Nat} {x y : Int32} {l3 : Int32} {l4 : Int32} {l5 : Int32} {l6 : Int32} {l7 : Int32} {b82 : Nat → Int32} {G_md_reckon : Int32 → Int32 → Int32 → Bool} {W_md_reckon : Int32 → Int32 → Int32 → Int32} : zseg X zFT (zEx 180 (P_md_reckon G_md_reckon W_md_reckon) zE0) zc_181 (fun p => Nat.beq p 16 || Nat.beq p 34 || Nat.beq p 46 || Nat.beq p 93 || Nat.beq p 121 || Nat.beq p 175) 400 175 [.ref 64, .int x, .int y, .int l3, .int l4, .int l5, .int l6, .int l7] [] ((zua ar 82 b82), fi, (m1, m2, m3, m4, m5)) = (
  bif decide (l6 = 5) then
   zg (Nat.beq 16 16 && (zin (l3 - 1) 260)) (
   bif !decide (b82 ((l3 - 1).toNatClampNeg) = 0) then
    zg (Nat.beq 16 16 && (zin ((l3 - 1) - 1) 260)) (
    zg (Nat.beq 16 16 && (zin (l3 - 1) 260)) (
    zg (G_md_reckon l6 (b82 (((l3 - 1) - 1).toNatClampNeg)) (b82 ((l3 - 1).toNatClampNeg))) (
    zl (W_md_reckon l6 (b82 (((l3 - 1) - 1).toNatClampNeg)) (b82 ((l3 - 1).toNatClampNeg))) (fun v4 =>
    zg (Nat.beq 16 16 && (zin ((l3 - 1) - 1) 260)) (
    some (.inl (16, [.ref 64, .int x, .int y, .int (l3 - 1), .int l4, .int l5], [], ((zua (zua ar 82 b82) 82 (zup b82 (((l3 - 1) - 1).toNatClampNeg) v4)), fi, (m1, m2, m3, m4, m5)))))))))
   else
    some (.inr (some (.int 0), ((zua ar 82 b82), fi, (m1, m2, m3, m4, m5)))))
  else
   bif !decide (l6 = 6) then
    zg (Nat.beq 16 16 && (zin ((l3 - 1) - 1) 260)) (
    zg (Nat.beq 16 16 && (zin (l3 - 1) 260)) (
    zg (G_md_reckon l6 (b82 (((l3 - 1) - 1).toNatClampNeg)) (b82 ((l3 - 1).toNatClampNeg))) (
    zl (W_md_reckon l6 (b82 (((l3 - 1) - 1).toNatClampNeg)) (b82 ((l3 - 1).toNatClampNeg))) (fun v5 =>
    zg (Nat.beq 16 16 && (zin ((l3 - 1) - 1) 260)) (
    some (.inl (16, [.ref 64, .int x, .int y, .int (l3 - 1), .int l4, .int l5], [], ((zua (zua ar 82 b82) 82 (zup b82 (((l3 - 1) - 1).toNatClampNeg) v5)), fi, (m1, m2, m3, m4, m5)))))))))
   else
    zg (Nat.beq 16 16 && (zin (l3 - 1) 260)) (
    bif !decide (b82 ((l3 - 1).toNatClampNeg) = 0) then
     zg (Nat.beq 16 16 && (zin ((l3 - 1) - 1) 260)) (
     zg (Nat.beq 16 16 && (zin (l3 - 1) 260)) (
     zg (G_md_reckon l6 (b82 (((l3 - 1) - 1).toNatClampNeg)) (b82 ((l3 - 1).toNatClampNeg))) (
     zl (W_md_reckon l6 (b82 (((l3 - 1) - 1).toNatClampNeg)) (b82 ((l3 - 1).toNatClampNeg))) (fun v6 =>
     zg (Nat.beq 16 16 && (zin ((l3 - 1) - 1) 260)) (
     some (.inl (16, [.ref 64, .int x, .int y, .int (l3 - 1), .int l4, .int l5], [], ((zua (zua ar 82 b82) 82 (zup b82 (((l3 - 1) - 1).toNatClampNeg) v6)), fi, (m1, m2, m3, m4, m5)))))))))
    else
     some (.inr (some (.int 0), ((zua ar 82 b82), fi, (m1, m2, m3, m4, m5))))) : Option ((Nat × List Value × List Value × zH2) ⊕ zO2)) := by with_unfolding_all rfl
set_option maxRecDepth 20000 in
theorem k_md_reckonsTo_16 {X : Nat × (Nat → Int32)} {ar fi : Nat → Nat → Int32} {m1 m2 m3 m4 m5 : Nat} {x y : Int32} {l4 : Int32} {o : zO2} : ∀ (s : U_md_reckonsTo_16) (q : U_md_reckonsTo_16 ⊕ T_md_reckonsTo), f_md_reckonsTo_16 y (ar 77) (ar 83) l4 s = some q → zq (M_md_reckonsTo_16 X (zEx 180 S_md_reckon zE0) ar fi m1 m2 m3 m4 m5 x y l4 o) (fun t => O_md_reckonsTo ar fi m1 m2 m3 m4 m5 t = o) q → M_md_reckonsTo_16 X (zEx 180 S_md_reckon zE0) ar fi m1 m2 m3 m4 m5 x y l4 o s := by
  intro s q h hq
  obtain ⟨l3, l5, b82⟩ := s
  have h : b_md_reckonsTo_16 y (ar 77) (ar 83) l4 l3 l5 b82 = some q := h
  unfold b_md_reckonsTo_16 at h
  show zR2 X zFT (zEx 180 S_md_reckon zE0) zc_181 16 [.ref 64, .int x, .int y, .int l3, .int l4, .int l5] [] ((zua ar 82 b82), fi, (m1, m2, m3, m4, m5)) o
  refine zT_seg t16_md_reckonsTo ?_
  obtain ⟨TT, hTT⟩ : ∃ T, T = zT X zFT (zEx 180 S_md_reckon zE0) zc_181 o := ⟨_, rfl⟩
  rw [← hTT]
  refine zb_el h (fun hb h => zU_t hTT hb ?_) (fun hb h => zU_f hTT hb ?_)
  · refine zg_el h (fun hg h => zU_ga hTT hg ?_)
    rw [hTT]
    have hz := zsi h hq
    refine (zO_mk ?_ ?_).trans hz
    · first | with_reducible rfl | exact hA0_md_reckonsTo _ _
    · first | with_reducible rfl | rfl
  · refine zg_el h (fun hg h => zU_ga hTT hg ?_)
    refine zU_g hTT rfl ?_
    obtain ⟨wz, hwz⟩ : ∃ z, z = (ar 77) (l5.toNatClampNeg) / 1048576 := ⟨_, rfl⟩
    rw [← hwz] at h ⊢
    rw [hTT]
    refine zT_seg t16c34_md_reckonsTo ?_
    rw [← hTT]
    refine zg_el h (fun hg h => zU_ga hTT hg ?_)
    refine zU_g hTT rfl ?_
    rw [← hwz]
    obtain ⟨wy, hwy⟩ : ∃ z, z = (ar 77) (l5.toNatClampNeg) - wz * 1048576 := ⟨_, rfl⟩
    rw [← hwy] at h ⊢
    rw [hTT]
    refine zT_seg t16c46_md_reckonsTo ?_
    rw [← hTT]
    refine zb_el h (fun hb h => zU_t hTT hb ?_) (fun hb h => zU_f hTT hb ?_)
    · refine zb_el h (fun hb h => zU_t hTT hb ?_) (fun hb h => zU_f hTT hb ?_)
      · refine zg_el h (fun hg h => zU_ga hTT hg ?_)
        refine zg_el h (fun hg h => zU_ga hTT hg ?_)
        rw [hTT]
        have hz := zsi h hq
        refine zR2_hp ?_ ?_ hz
        · first | with_reducible rfl | exact hA1_md_reckonsTo _ _ _
        · first | with_reducible rfl | rfl
      · refine zg_el h (fun hg h => zU_ga hTT hg ?_)
        rw [hTT]
        have hz := zsi h hq
        refine zR2_hp ?_ ?_ hz
        · first | with_reducible rfl | exact hA1_md_reckonsTo _ _ _
        · first | with_reducible rfl | rfl
    · refine zb_el h (fun hb h => zU_t hTT hb ?_) (fun hb h => zU_f hTT hb ?_)
      · rw [hTT]
        refine zT_seg t16c93_md_reckonsTo ?_
        rw [← hTT]
        refine zb_el h (fun hb h => zU_t hTT hb ?_) (fun hb h => zU_f hTT hb ?_)
        · rw [hTT]
          refine zT_seg t16c121_md_reckonsTo ?_
          rw [← hTT]
          refine zb_el h (fun hb h => zU_t hTT hb ?_) (fun hb h => zU_f hTT hb ?_)
          · refine zg_el h (fun hg h => zU_ga hTT hg ?_)
            refine zb_el h (fun hb h => zU_t hTT hb ?_) (fun hb h => zU_f hTT hb ?_)
            · refine zb_el h (fun hb h => zU_t hTT hb ?_) (fun hb h => zU_f hTT hb ?_)
              · rw [hTT]
                have hz := zsi h hq
                refine zR2_hp ?_ ?_ hz
                · first | with_reducible rfl | exact hA0_md_reckonsTo _ _
                · first | with_reducible rfl | rfl
              · rw [hTT]
                have hz := zsi h hq
                refine zR2_hp ?_ ?_ hz
                · first | with_reducible rfl | exact hA0_md_reckonsTo _ _
                · first | with_reducible rfl | rfl
            · refine zb_el h (fun hb h => zU_t hTT hb ?_) (fun hb h => zU_f hTT hb ?_)
              · rw [hTT]
                have hz := zsi h hq
                refine zR2_hp ?_ ?_ hz
                · first | with_reducible rfl | exact hA0_md_reckonsTo _ _
                · first | with_reducible rfl | rfl
              · rw [hTT]
                have hz := zsi h hq
                refine zR2_hp ?_ ?_ hz
                · first | with_reducible rfl | exact hA0_md_reckonsTo _ _
                · first | with_reducible rfl | rfl
          · refine zb_el h (fun hb h => zU_t hTT hb ?_) (fun hb h => zU_f hTT hb ?_)
            · rw [hTT]
              refine zT_seg t16c175_md_reckonsTo ?_
              rw [← hTT]
              refine zb_el h (fun hb h => zU_t hTT hb ?_) (fun hb h => zU_f hTT hb ?_)
              · refine zg_el h (fun hg h => zU_ga hTT hg ?_)
                refine zb_el h (fun hb h => zU_t hTT hb ?_) (fun hb h => zU_f hTT hb ?_)
                · refine zg_el h (fun hg h => zU_ga hTT hg ?_)
                  refine zg_el h (fun hg h => zU_ga hTT hg ?_)
                  refine zg_el h (fun hg h => zU_g hTT hg ?_)
                  refine zl_el h (fun h => zU_l hTT ?_)
                  refine zg_el h (fun hg h => zU_ga hTT hg ?_)
                  rw [hTT]
                  have hz := zsi h hq
                  refine zR2_hp ?_ ?_ hz
                  · first | with_reducible rfl | exact hA1_md_reckonsTo _ _ _
                  · first | with_reducible rfl | rfl
                · rw [hTT]
                  have hz := zsi h hq
                  refine (zO_mk ?_ ?_).trans hz
                  · first | with_reducible rfl | exact hA0_md_reckonsTo _ _
                  · first | with_reducible rfl | rfl
              · refine zb_el h (fun hb h => zU_t hTT hb ?_) (fun hb h => zU_f hTT hb ?_)
                · refine zg_el h (fun hg h => zU_ga hTT hg ?_)
                  refine zg_el h (fun hg h => zU_ga hTT hg ?_)
                  refine zg_el h (fun hg h => zU_g hTT hg ?_)
                  refine zl_el h (fun h => zU_l hTT ?_)
                  refine zg_el h (fun hg h => zU_ga hTT hg ?_)
                  rw [hTT]
                  have hz := zsi h hq
                  refine zR2_hp ?_ ?_ hz
                  · first | with_reducible rfl | exact hA1_md_reckonsTo _ _ _
                  · first | with_reducible rfl | rfl
                · refine zg_el h (fun hg h => zU_ga hTT hg ?_)
                  refine zb_el h (fun hb h => zU_t hTT hb ?_) (fun hb h => zU_f hTT hb ?_)
                  · refine zg_el h (fun hg h => zU_ga hTT hg ?_)
                    refine zg_el h (fun hg h => zU_ga hTT hg ?_)
                    refine zg_el h (fun hg h => zU_g hTT hg ?_)
                    refine zl_el h (fun h => zU_l hTT ?_)
                    refine zg_el h (fun hg h => zU_ga hTT hg ?_)
                    rw [hTT]
                    have hz := zsi h hq
                    refine zR2_hp ?_ ?_ hz
                    · first | with_reducible rfl | exact hA1_md_reckonsTo _ _ _
                    · first | with_reducible rfl | rfl
                  · rw [hTT]
                    have hz := zsi h hq
                    refine (zO_mk ?_ ?_).trans hz
                    · first | with_reducible rfl | exact hA0_md_reckonsTo _ _
                    · first | with_reducible rfl | rfl
            · refine zg_el h (fun hg h => zU_ga hTT hg ?_)
              refine zb_el h (fun hb h => zU_t hTT hb ?_) (fun hb h => zU_f hTT hb ?_)
              · refine zb_el h (fun hb h => zU_t hTT hb ?_) (fun hb h => zU_f hTT hb ?_)
                · rw [hTT]
                  have hz := zsi h hq
                  refine zR2_hp ?_ ?_ hz
                  · first | with_reducible rfl | exact hA0_md_reckonsTo _ _
                  · first | with_reducible rfl | rfl
                · rw [hTT]
                  have hz := zsi h hq
                  refine zR2_hp ?_ ?_ hz
                  · first | with_reducible rfl | exact hA0_md_reckonsTo _ _
                  · first | with_reducible rfl | rfl
              · refine zb_el h (fun hb h => zU_t hTT hb ?_) (fun hb h => zU_f hTT hb ?_)
                · rw [hTT]
                  have hz := zsi h hq
                  refine zR2_hp ?_ ?_ hz
                  · first | with_reducible rfl | exact hA0_md_reckonsTo _ _
                  · first | with_reducible rfl | rfl
                · rw [hTT]
                  have hz := zsi h hq
                  refine zR2_hp ?_ ?_ hz
                  · first | with_reducible rfl | exact hA0_md_reckonsTo _ _
                  · first | with_reducible rfl | rfl
        · refine zg_el h (fun hg h => zU_ga hTT hg ?_)
          refine zg_el h (fun hg h => zU_ga hTT hg ?_)
          rw [hTT]
          have hz := zsi h hq
          refine zR2_hp ?_ ?_ hz
          · first | with_reducible rfl | exact hA1_md_reckonsTo _ _ _
          · first | with_reducible rfl | rfl
      · refine zb_el h (fun hb h => zU_t hTT hb ?_) (fun hb h => zU_f hTT hb ?_)
        · refine zg_el h (fun hg h => zU_ga hTT hg ?_)
          refine zg_el h (fun hg h => zU_ga hTT hg ?_)
          rw [hTT]
          have hz := zsi h hq
          refine zR2_hp ?_ ?_ hz
          · first | with_reducible rfl | exact hA1_md_reckonsTo _ _ _
          · first | with_reducible rfl | rfl
        · refine zg_el h (fun hg h => zU_ga hTT hg ?_)
          rw [hTT]
          have hz := zsi h hq
          refine zR2_hp ?_ ?_ hz
          · first | with_reducible rfl | exact hA1_md_reckonsTo _ _ _
          · first | with_reducible rfl | rfl
set_option maxRecDepth 1000000 in
theorem t_md_reckonsTo {X : Nat × (Nat → Int32)} {ar fi : Nat → Nat → Int32} {m1 m2 m3 m4 m5 : Nat} {x y : Int32} {G_md_reckon : Int32 → Int32 → Int32 → Bool} {W_md_reckon : Int32 → Int32 → Int32 → Int32} : zseg X zFT (zEx 180 (P_md_reckon G_md_reckon W_md_reckon) zE0) zc_181 (fun p => Nat.beq p 16 || Nat.beq p 34 || Nat.beq p 46 || Nat.beq p 93 || Nat.beq p 121 || Nat.beq p 175) 400 0 [.ref 64, .int x, .int y] [] (ar, fi, (m1, m2, m3, m4, m5)) = (
  zg (!decide ((260 : Int32) = 0)) (
  some (.inl (16, [.ref 64, .int x, .int y, .int 0, .int (260 * (x / 260)), .int x], [], (ar, fi, (m1, m2, m3, m4, m5))))) : Option ((Nat × List Value × List Value × zH2) ⊕ zO2)) := rfl
set_option maxRecDepth 20000 in
theorem e_md_reckonsTo {X : Nat × (Nat → Int32)} {ar fi : Nat → Nat → Int32} {m1 m2 m3 m4 m5 : Nat} {x y : Int32} {o : zO2} : ∀ (q : T_md_reckonsTo), q_md_reckonsTo x y (ar 77) (ar 82) (ar 83) = some q → (fun t => O_md_reckonsTo ar fi m1 m2 m3 m4 m5 t = o) q → zR2 X zFT (zEx 180 S_md_reckon zE0) zc_181 0 [.ref 64, .int x, .int y] [] (ar, fi, (m1, m2, m3, m4, m5)) o := by
  intro q h hq
  unfold q_md_reckonsTo at h
  refine zT_seg t_md_reckonsTo ?_
  obtain ⟨TT, hTT⟩ : ∃ T, T = zT X zFT (zEx 180 S_md_reckon zE0) zc_181 o := ⟨_, rfl⟩
  rw [← hTT]
  refine zU_g hTT rfl ?_
  rw [hTT]
  refine zR2_hp ?_ ?_ (zlp_K k_md_reckonsTo_16 h hq)
  · first | with_reducible rfl | exact hA2_md_reckonsTo _
  · first | with_reducible rfl | rfl
theorem ok_md_reckonsTo (X : Nat × (Nat → Int32)) : zOkS X 181 S_md_reckonsTo 2 := zOkS_new (zOkE_cons (ok_md_reckon X) (by decide) (zOkE_nil X 1)) (by
  intro args g o h
  obtain ⟨ar, fi, m1, m2, m3, m4, m5⟩ := g
  unfold S_md_reckonsTo P_md_reckonsTo at h
  split at h
  · refine zb_el h (fun hI0 k0 => ?_) (fun _ h10 => ?_)
    · try simp only [Bool.and_eq_true] at hI0
      have j0 := hI0
      have e0 := Nat.eq_of_beq_eq_true j0
      subst e0
      exact zpe_el k0 (fun t ht ho => by obtain ⟨t0, t1⟩ := t; exact e_md_reckonsTo _ ht ho)
    · cases h10
  · cases h)
