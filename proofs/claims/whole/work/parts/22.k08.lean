abbrev T_md_reckonsTo : Type := Int32 × (Nat → Int32)
abbrev U_md_reckonsTo_16 : Type := Int32 × Int32 × (Nat → Int32)
def b_md_reckonsTo_16 (y : Int32) (a77 : Nat → Int32) (a83 : Nat → Int32) (l4 : Int32) (l3 : Int32) (l5 : Int32) (b82 : Nat → Int32) : Option (U_md_reckonsTo_16 ⊕ T_md_reckonsTo) :=
  bif decide (y ≤ l5) then
   zg (zin 0 260) (
   some (.inr (b82 ((0 : Int32).toNatClampNeg), b82)))
  else
   zg (zin l5 260) (
   zg (zin l5 260) (
   bif decide ((a77 (l5.toNatClampNeg)) / 1048576 = 0) then
    bif !decide ((a77 (l5.toNatClampNeg)) / 1048576 = 0) then
     zg (zin ((a77 (l5.toNatClampNeg)) - (a77 (l5.toNatClampNeg)) / 1048576 * 1048576) 9) (
     zg (zin l3 260) (
     some (.inl (l3 + 1, l5 + 1, (zup b82 (l3.toNatClampNeg) (a83 (((a77 (l5.toNatClampNeg)) - (a77 (l5.toNatClampNeg)) / 1048576 * 1048576).toNatClampNeg)))))))
    else
     zg (zin l3 260) (
     some (.inl (l3 + 1, l5 + 1, (zup b82 (l3.toNatClampNeg) ((a77 (l5.toNatClampNeg)) - (a77 (l5.toNatClampNeg)) / 1048576 * 1048576)))))
   else
    bif !decide ((a77 (l5.toNatClampNeg)) / 1048576 = 1) then
     bif !decide ((a77 (l5.toNatClampNeg)) / 1048576 = 10) then
      bif decide ((a77 (l5.toNatClampNeg)) / 1048576 = 11) then
       zg (zin (l3 - 1) 260) (
       bif !decide ((a77 (l5.toNatClampNeg)) / 1048576 = 12) then
        bif !decide (b82 ((l3 - 1).toNatClampNeg) = 0) then
         some (.inl (l3 - 1, l5 + 1, b82))
        else
         some (.inl (l3, l4 + ((a77 (l5.toNatClampNeg)) - (a77 (l5.toNatClampNeg)) / 1048576 * 1048576), b82))
       else
        bif !decide (b82 ((l3 - 1).toNatClampNeg) = 1) then
         some (.inl (l3 - 1, l5 + 1, b82))
        else
         some (.inl (l3, l4 + ((a77 (l5.toNatClampNeg)) - (a77 (l5.toNatClampNeg)) / 1048576 * 1048576), b82)))
      else
       bif !decide ((a77 (l5.toNatClampNeg)) / 1048576 = 12) then
        bif decide ((a77 (l5.toNatClampNeg)) / 1048576 = 5) then
         zg (zin (l3 - 1) 260) (
         bif !decide (b82 ((l3 - 1).toNatClampNeg) = 0) then
          zg (zin ((l3 - 1) - 1) 260) (
          zg (zin (l3 - 1) 260) (
          zg (g_md_reckon ((a77 (l5.toNatClampNeg)) / 1048576) (b82 (((l3 - 1) - 1).toNatClampNeg)) (b82 ((l3 - 1).toNatClampNeg))) (
          zl (w_md_reckon ((a77 (l5.toNatClampNeg)) / 1048576) (b82 (((l3 - 1) - 1).toNatClampNeg)) (b82 ((l3 - 1).toNatClampNeg))) (fun v1 =>
          zg (zin ((l3 - 1) - 1) 260) (
          some (.inl (l3 - 1, l5 + 1, (zup b82 (((l3 - 1) - 1).toNatClampNeg) v1))))))))
         else
          some (.inr (0, b82)))
        else
         bif !decide ((a77 (l5.toNatClampNeg)) / 1048576 = 6) then
          zg (zin ((l3 - 1) - 1) 260) (
          zg (zin (l3 - 1) 260) (
          zg (g_md_reckon ((a77 (l5.toNatClampNeg)) / 1048576) (b82 (((l3 - 1) - 1).toNatClampNeg)) (b82 ((l3 - 1).toNatClampNeg))) (
          zl (w_md_reckon ((a77 (l5.toNatClampNeg)) / 1048576) (b82 (((l3 - 1) - 1).toNatClampNeg)) (b82 ((l3 - 1).toNatClampNeg))) (fun v2 =>
          zg (zin ((l3 - 1) - 1) 260) (
          some (.inl (l3 - 1, l5 + 1, (zup b82 (((l3 - 1) - 1).toNatClampNeg) v2))))))))
         else
          zg (zin (l3 - 1) 260) (
          bif !decide (b82 ((l3 - 1).toNatClampNeg) = 0) then
           zg (zin ((l3 - 1) - 1) 260) (
           zg (zin (l3 - 1) 260) (
           zg (g_md_reckon ((a77 (l5.toNatClampNeg)) / 1048576) (b82 (((l3 - 1) - 1).toNatClampNeg)) (b82 ((l3 - 1).toNatClampNeg))) (
           zl (w_md_reckon ((a77 (l5.toNatClampNeg)) / 1048576) (b82 (((l3 - 1) - 1).toNatClampNeg)) (b82 ((l3 - 1).toNatClampNeg))) (fun v3 =>
           zg (zin ((l3 - 1) - 1) 260) (
           some (.inl (l3 - 1, l5 + 1, (zup b82 (((l3 - 1) - 1).toNatClampNeg) v3))))))))
          else
           some (.inr (0, b82)))
       else
        zg (zin (l3 - 1) 260) (
        bif !decide ((a77 (l5.toNatClampNeg)) / 1048576 = 12) then
         bif !decide (b82 ((l3 - 1).toNatClampNeg) = 0) then
          some (.inl (l3 - 1, l5 + 1, b82))
         else
          some (.inl (l3, l4 + ((a77 (l5.toNatClampNeg)) - (a77 (l5.toNatClampNeg)) / 1048576 * 1048576), b82))
        else
         bif !decide (b82 ((l3 - 1).toNatClampNeg) = 1) then
          some (.inl (l3 - 1, l5 + 1, b82))
         else
          some (.inl (l3, l4 + ((a77 (l5.toNatClampNeg)) - (a77 (l5.toNatClampNeg)) / 1048576 * 1048576), b82)))
     else
      zg (zin (l3 - 1) 260) (
      zg (zin (l3 - 1) 260) (
      some (.inl (l3, l5 + 1, (zup b82 ((l3 - 1).toNatClampNeg) (1 - (b82 ((l3 - 1).toNatClampNeg))))))))
    else
     bif !decide ((a77 (l5.toNatClampNeg)) / 1048576 = 0) then
      zg (zin ((a77 (l5.toNatClampNeg)) - (a77 (l5.toNatClampNeg)) / 1048576 * 1048576) 9) (
      zg (zin l3 260) (
      some (.inl (l3 + 1, l5 + 1, (zup b82 (l3.toNatClampNeg) (a83 (((a77 (l5.toNatClampNeg)) - (a77 (l5.toNatClampNeg)) / 1048576 * 1048576).toNatClampNeg)))))))
     else
      zg (zin l3 260) (
      some (.inl (l3 + 1, l5 + 1, (zup b82 (l3.toNatClampNeg) ((a77 (l5.toNatClampNeg)) - (a77 (l5.toNatClampNeg)) / 1048576 * 1048576)))))))
def f_md_reckonsTo_16 (y : Int32) (a77 : Nat → Int32) (a83 : Nat → Int32) (l4 : Int32) : U_md_reckonsTo_16 → Option (U_md_reckonsTo_16 ⊕ T_md_reckonsTo) := fun s => b_md_reckonsTo_16 y a77 a83 l4 s.1 s.2.1 s.2.2
noncomputable def l_md_reckonsTo_16 (y : Int32) (a77 : Nat → Int32) (a83 : Nat → Int32) (l4 : Int32) (l3 : Int32) (l5 : Int32) (b82 : Nat → Int32) : Option T_md_reckonsTo := zlp (f_md_reckonsTo_16 y a77 a83 l4) (l3, l5, b82)
noncomputable def q_md_reckonsTo (x : Int32) (y : Int32) (a77 : Nat → Int32) (a82 : Nat → Int32) (a83 : Nat → Int32) : Option T_md_reckonsTo :=
  l_md_reckonsTo_16 y a77 a83 (260 * (x / 260)) 0 x a82
def P_md_reckonsTo (Q : Int32 → Int32 → (Nat → Int32) → (Nat → Int32) → (Nat → Int32) → Option (Int32 × (Nat → Int32))) : zSp := fun as g => match as with
  | [.ref a, .int x, .int y] => bif Nat.beq a 64 then zpe (Q x y (g.1 77) (g.1 82) (g.1 83)) (fun t => (some (.int (t.1)), ((zua g.1 82 t.2), g.2.1, g.2.2))) else none
  | _ => none
noncomputable abbrev S_md_reckonsTo : zSp := P_md_reckonsTo q_md_reckonsTo
def O_md_reckonsTo (ar fi : Nat → Nat → Int32) (m1 : Nat) (m2 : Nat) (m3 : Nat) (m4 : Nat) (m5 : Nat) (t : T_md_reckonsTo) : zO2 := (some (.int (t.1)), ((zua ar 82 t.2), fi, (m1, m2, m3, m4, m5)))
def M_md_reckonsTo_16 (X : Nat × (Nat → Int32)) (E : zTE) (ar fi : Nat → Nat → Int32) (m1 : Nat) (m2 : Nat) (m3 : Nat) (m4 : Nat) (m5 : Nat) (x : Int32) (y : Int32) (l4 : Int32) (o : zO2) (s : U_md_reckonsTo_16) : Prop := zR2 X zFT E zc_181 16 [.ref 64, .int x, .int y, .int s.1, .int l4, .int s.2.1] [] ((zua ar 82 s.2.2), fi, (m1, m2, m3, m4, m5)) o
set_option maxRecDepth 20000 in
theorem t16_md_reckonsTo {X : Nat × (Nat → Int32)} {ar fi : Nat → Nat → Int32} {m1 m2 m3 m4 m5 : Nat} {x y : Int32} {l3 : Int32} {l4 : Int32} {l5 : Int32} {b82 : Nat → Int32} {G_md_reckon : Int32 → Int32 → Int32 → Bool} {W_md_reckon : Int32 → Int32 → Int32 → Int32} : zseg X zFT (zEx 180 (P_md_reckon G_md_reckon W_md_reckon) zE0) zc_181 (fun p => Nat.beq p 16) 400 16 [.ref 64, .int x, .int y, .int l3, .int l4, .int l5] [] ((zua ar 82 b82), fi, (m1, m2, m3, m4, m5)) = (
  bif decide (y ≤ l5) then
   zg (zin 0 260) (
   some (.inr (some (.int (b82 ((0 : Int32).toNatClampNeg))), ((zua ar 82 b82), fi, (m1, m2, m3, m4, m5)))))
  else
   zg (zin l5 260) (
   zg (zin l5 260) (
   bif decide (((ar 77) (l5.toNatClampNeg)) / 1048576 = 0) then
    bif !decide (((ar 77) (l5.toNatClampNeg)) / 1048576 = 0) then
     zg (zin (((ar 77) (l5.toNatClampNeg)) - ((ar 77) (l5.toNatClampNeg)) / 1048576 * 1048576) 9) (
     zg (zin l3 260) (
     some (.inl (16, [.ref 64, .int x, .int y, .int (l3 + 1), .int l4, .int (l5 + 1)], [], ((zua (zua ar 82 b82) 82 (zup b82 (l3.toNatClampNeg) ((ar 83) ((((ar 77) (l5.toNatClampNeg)) - ((ar 77) (l5.toNatClampNeg)) / 1048576 * 1048576).toNatClampNeg)))), fi, (m1, m2, m3, m4, m5))))))
    else
     zg (zin l3 260) (
     some (.inl (16, [.ref 64, .int x, .int y, .int (l3 + 1), .int l4, .int (l5 + 1)], [], ((zua (zua ar 82 b82) 82 (zup b82 (l3.toNatClampNeg) (((ar 77) (l5.toNatClampNeg)) - ((ar 77) (l5.toNatClampNeg)) / 1048576 * 1048576))), fi, (m1, m2, m3, m4, m5)))))
   else
    bif !decide (((ar 77) (l5.toNatClampNeg)) / 1048576 = 1) then
     bif !decide (((ar 77) (l5.toNatClampNeg)) / 1048576 = 10) then
      bif decide (((ar 77) (l5.toNatClampNeg)) / 1048576 = 11) then
       zg (zin (l3 - 1) 260) (
       bif !decide (((ar 77) (l5.toNatClampNeg)) / 1048576 = 12) then
        bif !decide (b82 ((l3 - 1).toNatClampNeg) = 0) then
         some (.inl (16, [.ref 64, .int x, .int y, .int (l3 - 1), .int l4, .int (l5 + 1)], [], ((zua ar 82 b82), fi, (m1, m2, m3, m4, m5))))
        else
         some (.inl (16, [.ref 64, .int x, .int y, .int l3, .int l4, .int (l4 + (((ar 77) (l5.toNatClampNeg)) - ((ar 77) (l5.toNatClampNeg)) / 1048576 * 1048576))], [], ((zua ar 82 b82), fi, (m1, m2, m3, m4, m5))))
       else
        bif !decide (b82 ((l3 - 1).toNatClampNeg) = 1) then
         some (.inl (16, [.ref 64, .int x, .int y, .int (l3 - 1), .int l4, .int (l5 + 1)], [], ((zua ar 82 b82), fi, (m1, m2, m3, m4, m5))))
        else
         some (.inl (16, [.ref 64, .int x, .int y, .int l3, .int l4, .int (l4 + (((ar 77) (l5.toNatClampNeg)) - ((ar 77) (l5.toNatClampNeg)) / 1048576 * 1048576))], [], ((zua ar 82 b82), fi, (m1, m2, m3, m4, m5)))))
      else
       bif !decide (((ar 77) (l5.toNatClampNeg)) / 1048576 = 12) then
        bif decide (((ar 77) (l5.toNatClampNeg)) / 1048576 = 5) then
         zg (zin (l3 - 1) 260) (
         bif !decide (b82 ((l3 - 1).toNatClampNeg) = 0) then
          zg (zin ((l3 - 1) - 1) 260) (
          zg (zin (l3 - 1) 260) (
          zg (G_md_reckon (((ar 77) (l5.toNatClampNeg)) / 1048576) (b82 (((l3 - 1) - 1).toNatClampNeg)) (b82 ((l3 - 1).toNatClampNeg))) (
          zl (W_md_reckon (((ar 77) (l5.toNatClampNeg)) / 1048576) (b82 (((l3 - 1) - 1).toNatClampNeg)) (b82 ((l3 - 1).toNatClampNeg))) (fun v1 =>
          zg (zin ((l3 - 1) - 1) 260) (
          some (.inl (16, [.ref 64, .int x, .int y, .int (l3 - 1), .int l4, .int (l5 + 1)], [], ((zua (zua ar 82 b82) 82 (zup b82 (((l3 - 1) - 1).toNatClampNeg) v1)), fi, (m1, m2, m3, m4, m5)))))))))
         else
          some (.inr (some (.int 0), ((zua ar 82 b82), fi, (m1, m2, m3, m4, m5)))))
        else
         bif !decide (((ar 77) (l5.toNatClampNeg)) / 1048576 = 6) then
          zg (zin ((l3 - 1) - 1) 260) (
          zg (zin (l3 - 1) 260) (
          zg (G_md_reckon (((ar 77) (l5.toNatClampNeg)) / 1048576) (b82 (((l3 - 1) - 1).toNatClampNeg)) (b82 ((l3 - 1).toNatClampNeg))) (
          zl (W_md_reckon (((ar 77) (l5.toNatClampNeg)) / 1048576) (b82 (((l3 - 1) - 1).toNatClampNeg)) (b82 ((l3 - 1).toNatClampNeg))) (fun v2 =>
          zg (zin ((l3 - 1) - 1) 260) (
          some (.inl (16, [.ref 64, .int x, .int y, .int (l3 - 1), .int l4, .int (l5 + 1)], [], ((zua (zua ar 82 b82) 82 (zup b82 (((l3 - 1) - 1).toNatClampNeg) v2)), fi, (m1, m2, m3, m4, m5)))))))))
         else
          zg (zin (l3 - 1) 260) (
          bif !decide (b82 ((l3 - 1).toNatClampNeg) = 0) then
           zg (zin ((l3 - 1) - 1) 260) (
           zg (zin (l3 - 1) 260) (
           zg (G_md_reckon (((ar 77) (l5.toNatClampNeg)) / 1048576) (b82 (((l3 - 1) - 1).toNatClampNeg)) (b82 ((l3 - 1).toNatClampNeg))) (
           zl (W_md_reckon (((ar 77) (l5.toNatClampNeg)) / 1048576) (b82 (((l3 - 1) - 1).toNatClampNeg)) (b82 ((l3 - 1).toNatClampNeg))) (fun v3 =>
           zg (zin ((l3 - 1) - 1) 260) (
           some (.inl (16, [.ref 64, .int x, .int y, .int (l3 - 1), .int l4, .int (l5 + 1)], [], ((zua (zua ar 82 b82) 82 (zup b82 (((l3 - 1) - 1).toNatClampNeg) v3)), fi, (m1, m2, m3, m4, m5)))))))))
          else
           some (.inr (some (.int 0), ((zua ar 82 b82), fi, (m1, m2, m3, m4, m5)))))
       else
        zg (zin (l3 - 1) 260) (
        bif !decide (((ar 77) (l5.toNatClampNeg)) / 1048576 = 12) then
         bif !decide (b82 ((l3 - 1).toNatClampNeg) = 0) then
          some (.inl (16, [.ref 64, .int x, .int y, .int (l3 - 1), .int l4, .int (l5 + 1)], [], ((zua ar 82 b82), fi, (m1, m2, m3, m4, m5))))
         else
          some (.inl (16, [.ref 64, .int x, .int y, .int l3, .int l4, .int (l4 + (((ar 77) (l5.toNatClampNeg)) - ((ar 77) (l5.toNatClampNeg)) / 1048576 * 1048576))], [], ((zua ar 82 b82), fi, (m1, m2, m3, m4, m5))))
        else
         bif !decide (b82 ((l3 - 1).toNatClampNeg) = 1) then
          some (.inl (16, [.ref 64, .int x, .int y, .int (l3 - 1), .int l4, .int (l5 + 1)], [], ((zua ar 82 b82), fi, (m1, m2, m3, m4, m5))))
         else
          some (.inl (16, [.ref 64, .int x, .int y, .int l3, .int l4, .int (l4 + (((ar 77) (l5.toNatClampNeg)) - ((ar 77) (l5.toNatClampNeg)) / 1048576 * 1048576))], [], ((zua ar 82 b82), fi, (m1, m2, m3, m4, m5)))))
     else
      zg (zin (l3 - 1) 260) (
      zg (zin (l3 - 1) 260) (
      some (.inl (16, [.ref 64, .int x, .int y, .int l3, .int l4, .int (l5 + 1)], [], ((zua (zua ar 82 b82) 82 (zup b82 ((l3 - 1).toNatClampNeg) (1 - (b82 ((l3 - 1).toNatClampNeg))))), fi, (m1, m2, m3, m4, m5))))))
    else
     bif !decide (((ar 77) (l5.toNatClampNeg)) / 1048576 = 0) then
      zg (zin (((ar 77) (l5.toNatClampNeg)) - ((ar 77) (l5.toNatClampNeg)) / 1048576 * 1048576) 9) (
      zg (zin l3 260) (
      some (.inl (16, [.ref 64, .int x, .int y, .int (l3 + 1), .int l4, .int (l5 + 1)], [], ((zua (zua ar 82 b82) 82 (zup b82 (l3.toNatClampNeg) ((ar 83) ((((ar 77) (l5.toNatClampNeg)) - ((ar 77) (l5.toNatClampNeg)) / 1048576 * 1048576).toNatClampNeg)))), fi, (m1, m2, m3, m4, m5))))))
     else
      zg (zin l3 260) (
      some (.inl (16, [.ref 64, .int x, .int y, .int (l3 + 1), .int l4, .int (l5 + 1)], [], ((zua (zua ar 82 b82) 82 (zup b82 (l3.toNatClampNeg) (((ar 77) (l5.toNatClampNeg)) - ((ar 77) (l5.toNatClampNeg)) / 1048576 * 1048576))), fi, (m1, m2, m3, m4, m5))))))) : Option ((Nat × List Value × List Value × zH2) ⊕ zO2)) := rfl
theorem k_md_reckonsTo_16 {X : Nat × (Nat → Int32)} {ar fi : Nat → Nat → Int32} {m1 m2 m3 m4 m5 : Nat} {x y : Int32} {l4 : Int32} {o : zO2} : ∀ (s : U_md_reckonsTo_16) (q : U_md_reckonsTo_16 ⊕ T_md_reckonsTo), f_md_reckonsTo_16 y (ar 77) (ar 83) l4 s = some q → zq (M_md_reckonsTo_16 X (zEx 180 S_md_reckon zE0) ar fi m1 m2 m3 m4 m5 x y l4 o) (fun t => O_md_reckonsTo ar fi m1 m2 m3 m4 m5 t = o) q → M_md_reckonsTo_16 X (zEx 180 S_md_reckon zE0) ar fi m1 m2 m3 m4 m5 x y l4 o s := by
  intro s q h hq
  obtain ⟨l3, l5, b82⟩ := s
  have h : b_md_reckonsTo_16 y (ar 77) (ar 83) l4 l3 l5 b82 = some q := h
  unfold b_md_reckonsTo_16 at h
  show zR2 X zFT (zEx 180 S_md_reckon zE0) zc_181 16 [.ref 64, .int x, .int y, .int l3, .int l4, .int l5] [] ((zua ar 82 b82), fi, (m1, m2, m3, m4, m5)) o
  refine zT_seg t16_md_reckonsTo ?_
  refine zb_el h (fun hb h => zT_t hb ?_) (fun hb h => zT_f hb ?_)
  · refine zg_el h (fun hg h => zT_g hg ?_)
    have hz := zsi h hq
    exact (zO_mk (by first | with_reducible rfl | (simp (disch := decide) only [zua_sort, zua_zua, zua_self, zuf_sort1, zuf_sort2, zuf_zuf, zuf_self])) (by first | with_reducible rfl | (simp (disch := decide) only [zua_sort, zua_zua, zua_self, zuf_sort1, zuf_sort2, zuf_zuf, zuf_self]))).trans hz
  · refine zg_el h (fun hg h => zT_g hg ?_)
    refine zg_el h (fun hg h => zT_g hg ?_)
    refine zb_el h (fun hb h => zT_t hb ?_) (fun hb h => zT_f hb ?_)
    · refine zb_el h (fun hb h => zT_t hb ?_) (fun hb h => zT_f hb ?_)
      · refine zg_el h (fun hg h => zT_g hg ?_)
        refine zg_el h (fun hg h => zT_g hg ?_)
        have hz := zsi h hq
        exact zR2_hp (by first | with_reducible rfl | (simp (disch := decide) only [zua_sort, zua_zua, zua_self, zuf_sort1, zuf_sort2, zuf_zuf, zuf_self])) (by first | with_reducible rfl | (simp (disch := decide) only [zua_sort, zua_zua, zua_self, zuf_sort1, zuf_sort2, zuf_zuf, zuf_self])) hz
      · refine zg_el h (fun hg h => zT_g hg ?_)
        have hz := zsi h hq
        exact zR2_hp (by first | with_reducible rfl | (simp (disch := decide) only [zua_sort, zua_zua, zua_self, zuf_sort1, zuf_sort2, zuf_zuf, zuf_self])) (by first | with_reducible rfl | (simp (disch := decide) only [zua_sort, zua_zua, zua_self, zuf_sort1, zuf_sort2, zuf_zuf, zuf_self])) hz
    · refine zb_el h (fun hb h => zT_t hb ?_) (fun hb h => zT_f hb ?_)
      · refine zb_el h (fun hb h => zT_t hb ?_) (fun hb h => zT_f hb ?_)
        · refine zb_el h (fun hb h => zT_t hb ?_) (fun hb h => zT_f hb ?_)
          · refine zg_el h (fun hg h => zT_g hg ?_)
            refine zb_el h (fun hb h => zT_t hb ?_) (fun hb h => zT_f hb ?_)
            · refine zb_el h (fun hb h => zT_t hb ?_) (fun hb h => zT_f hb ?_)
              · have hz := zsi h hq
                exact zR2_hp (by first | with_reducible rfl | (simp (disch := decide) only [zua_sort, zua_zua, zua_self, zuf_sort1, zuf_sort2, zuf_zuf, zuf_self])) (by first | with_reducible rfl | (simp (disch := decide) only [zua_sort, zua_zua, zua_self, zuf_sort1, zuf_sort2, zuf_zuf, zuf_self])) hz
              · have hz := zsi h hq
                exact zR2_hp (by first | with_reducible rfl | (simp (disch := decide) only [zua_sort, zua_zua, zua_self, zuf_sort1, zuf_sort2, zuf_zuf, zuf_self])) (by first | with_reducible rfl | (simp (disch := decide) only [zua_sort, zua_zua, zua_self, zuf_sort1, zuf_sort2, zuf_zuf, zuf_self])) hz
            · refine zb_el h (fun hb h => zT_t hb ?_) (fun hb h => zT_f hb ?_)
              · have hz := zsi h hq
                exact zR2_hp (by first | with_reducible rfl | (simp (disch := decide) only [zua_sort, zua_zua, zua_self, zuf_sort1, zuf_sort2, zuf_zuf, zuf_self])) (by first | with_reducible rfl | (simp (disch := decide) only [zua_sort, zua_zua, zua_self, zuf_sort1, zuf_sort2, zuf_zuf, zuf_self])) hz
              · have hz := zsi h hq
                exact zR2_hp (by first | with_reducible rfl | (simp (disch := decide) only [zua_sort, zua_zua, zua_self, zuf_sort1, zuf_sort2, zuf_zuf, zuf_self])) (by first | with_reducible rfl | (simp (disch := decide) only [zua_sort, zua_zua, zua_self, zuf_sort1, zuf_sort2, zuf_zuf, zuf_self])) hz
          · refine zb_el h (fun hb h => zT_t hb ?_) (fun hb h => zT_f hb ?_)
            · refine zb_el h (fun hb h => zT_t hb ?_) (fun hb h => zT_f hb ?_)
              · refine zg_el h (fun hg h => zT_g hg ?_)
                refine zb_el h (fun hb h => zT_t hb ?_) (fun hb h => zT_f hb ?_)
                · refine zg_el h (fun hg h => zT_g hg ?_)
                  refine zg_el h (fun hg h => zT_g hg ?_)
                  refine zg_el h (fun hg h => zT_g hg ?_)
                  refine zl_el h (fun h => zT_l ?_)
                  refine zg_el h (fun hg h => zT_g hg ?_)
                  have hz := zsi h hq
                  exact zR2_hp (by first | with_reducible rfl | (simp (disch := decide) only [zua_sort, zua_zua, zua_self, zuf_sort1, zuf_sort2, zuf_zuf, zuf_self])) (by first | with_reducible rfl | (simp (disch := decide) only [zua_sort, zua_zua, zua_self, zuf_sort1, zuf_sort2, zuf_zuf, zuf_self])) hz
                · have hz := zsi h hq
                  exact (zO_mk (by first | with_reducible rfl | (simp (disch := decide) only [zua_sort, zua_zua, zua_self, zuf_sort1, zuf_sort2, zuf_zuf, zuf_self])) (by first | with_reducible rfl | (simp (disch := decide) only [zua_sort, zua_zua, zua_self, zuf_sort1, zuf_sort2, zuf_zuf, zuf_self]))).trans hz
              · refine zb_el h (fun hb h => zT_t hb ?_) (fun hb h => zT_f hb ?_)
                · refine zg_el h (fun hg h => zT_g hg ?_)
                  refine zg_el h (fun hg h => zT_g hg ?_)
                  refine zg_el h (fun hg h => zT_g hg ?_)
                  refine zl_el h (fun h => zT_l ?_)
                  refine zg_el h (fun hg h => zT_g hg ?_)
                  have hz := zsi h hq
                  exact zR2_hp (by first | with_reducible rfl | (simp (disch := decide) only [zua_sort, zua_zua, zua_self, zuf_sort1, zuf_sort2, zuf_zuf, zuf_self])) (by first | with_reducible rfl | (simp (disch := decide) only [zua_sort, zua_zua, zua_self, zuf_sort1, zuf_sort2, zuf_zuf, zuf_self])) hz
                · refine zg_el h (fun hg h => zT_g hg ?_)
                  refine zb_el h (fun hb h => zT_t hb ?_) (fun hb h => zT_f hb ?_)
                  · refine zg_el h (fun hg h => zT_g hg ?_)
                    refine zg_el h (fun hg h => zT_g hg ?_)
                    refine zg_el h (fun hg h => zT_g hg ?_)
                    refine zl_el h (fun h => zT_l ?_)
                    refine zg_el h (fun hg h => zT_g hg ?_)
                    have hz := zsi h hq
                    exact zR2_hp (by first | with_reducible rfl | (simp (disch := decide) only [zua_sort, zua_zua, zua_self, zuf_sort1, zuf_sort2, zuf_zuf, zuf_self])) (by first | with_reducible rfl | (simp (disch := decide) only [zua_sort, zua_zua, zua_self, zuf_sort1, zuf_sort2, zuf_zuf, zuf_self])) hz
                  · have hz := zsi h hq
                    exact (zO_mk (by first | with_reducible rfl | (simp (disch := decide) only [zua_sort, zua_zua, zua_self, zuf_sort1, zuf_sort2, zuf_zuf, zuf_self])) (by first | with_reducible rfl | (simp (disch := decide) only [zua_sort, zua_zua, zua_self, zuf_sort1, zuf_sort2, zuf_zuf, zuf_self]))).trans hz
            · refine zg_el h (fun hg h => zT_g hg ?_)
              refine zb_el h (fun hb h => zT_t hb ?_) (fun hb h => zT_f hb ?_)
              · refine zb_el h (fun hb h => zT_t hb ?_) (fun hb h => zT_f hb ?_)
                · have hz := zsi h hq
                  exact zR2_hp (by first | with_reducible rfl | (simp (disch := decide) only [zua_sort, zua_zua, zua_self, zuf_sort1, zuf_sort2, zuf_zuf, zuf_self])) (by first | with_reducible rfl | (simp (disch := decide) only [zua_sort, zua_zua, zua_self, zuf_sort1, zuf_sort2, zuf_zuf, zuf_self])) hz
                · have hz := zsi h hq
                  exact zR2_hp (by first | with_reducible rfl | (simp (disch := decide) only [zua_sort, zua_zua, zua_self, zuf_sort1, zuf_sort2, zuf_zuf, zuf_self])) (by first | with_reducible rfl | (simp (disch := decide) only [zua_sort, zua_zua, zua_self, zuf_sort1, zuf_sort2, zuf_zuf, zuf_self])) hz
              · refine zb_el h (fun hb h => zT_t hb ?_) (fun hb h => zT_f hb ?_)
                · have hz := zsi h hq
                  exact zR2_hp (by first | with_reducible rfl | (simp (disch := decide) only [zua_sort, zua_zua, zua_self, zuf_sort1, zuf_sort2, zuf_zuf, zuf_self])) (by first | with_reducible rfl | (simp (disch := decide) only [zua_sort, zua_zua, zua_self, zuf_sort1, zuf_sort2, zuf_zuf, zuf_self])) hz
                · have hz := zsi h hq
                  exact zR2_hp (by first | with_reducible rfl | (simp (disch := decide) only [zua_sort, zua_zua, zua_self, zuf_sort1, zuf_sort2, zuf_zuf, zuf_self])) (by first | with_reducible rfl | (simp (disch := decide) only [zua_sort, zua_zua, zua_self, zuf_sort1, zuf_sort2, zuf_zuf, zuf_self])) hz
        · refine zg_el h (fun hg h => zT_g hg ?_)
          refine zg_el h (fun hg h => zT_g hg ?_)
          have hz := zsi h hq
          exact zR2_hp (by first | with_reducible rfl | (simp (disch := decide) only [zua_sort, zua_zua, zua_self, zuf_sort1, zuf_sort2, zuf_zuf, zuf_self])) (by first | with_reducible rfl | (simp (disch := decide) only [zua_sort, zua_zua, zua_self, zuf_sort1, zuf_sort2, zuf_zuf, zuf_self])) hz
      · refine zb_el h (fun hb h => zT_t hb ?_) (fun hb h => zT_f hb ?_)
        · refine zg_el h (fun hg h => zT_g hg ?_)
          refine zg_el h (fun hg h => zT_g hg ?_)
          have hz := zsi h hq
          exact zR2_hp (by first | with_reducible rfl | (simp (disch := decide) only [zua_sort, zua_zua, zua_self, zuf_sort1, zuf_sort2, zuf_zuf, zuf_self])) (by first | with_reducible rfl | (simp (disch := decide) only [zua_sort, zua_zua, zua_self, zuf_sort1, zuf_sort2, zuf_zuf, zuf_self])) hz
        · refine zg_el h (fun hg h => zT_g hg ?_)
          have hz := zsi h hq
          exact zR2_hp (by first | with_reducible rfl | (simp (disch := decide) only [zua_sort, zua_zua, zua_self, zuf_sort1, zuf_sort2, zuf_zuf, zuf_self])) (by first | with_reducible rfl | (simp (disch := decide) only [zua_sort, zua_zua, zua_self, zuf_sort1, zuf_sort2, zuf_zuf, zuf_self])) hz
set_option maxRecDepth 20000 in
theorem t_md_reckonsTo {X : Nat × (Nat → Int32)} {ar fi : Nat → Nat → Int32} {m1 m2 m3 m4 m5 : Nat} {x y : Int32} {G_md_reckon : Int32 → Int32 → Int32 → Bool} {W_md_reckon : Int32 → Int32 → Int32 → Int32} : zseg X zFT (zEx 180 (P_md_reckon G_md_reckon W_md_reckon) zE0) zc_181 (fun p => Nat.beq p 16) 400 0 [.ref 64, .int x, .int y] [] (ar, fi, (m1, m2, m3, m4, m5)) = (
  some (.inl (16, [.ref 64, .int x, .int y, .int 0, .int (260 * (x / 260)), .int x], [], (ar, fi, (m1, m2, m3, m4, m5)))) : Option ((Nat × List Value × List Value × zH2) ⊕ zO2)) := rfl
theorem e_md_reckonsTo {X : Nat × (Nat → Int32)} {ar fi : Nat → Nat → Int32} {m1 m2 m3 m4 m5 : Nat} {x y : Int32} {o : zO2} : ∀ (q : T_md_reckonsTo), q_md_reckonsTo x y (ar 77) (ar 82) (ar 83) = some q → (fun t => O_md_reckonsTo ar fi m1 m2 m3 m4 m5 t = o) q → zR2 X zFT (zEx 180 S_md_reckon zE0) zc_181 0 [.ref 64, .int x, .int y] [] (ar, fi, (m1, m2, m3, m4, m5)) o := by
  intro q h hq
  unfold q_md_reckonsTo at h
  refine zT_seg t_md_reckonsTo ?_
  exact zR2_hp (by first | with_reducible rfl | (simp (disch := decide) only [zua_sort, zua_zua, zua_self, zuf_sort1, zuf_sort2, zuf_zuf, zuf_self])) (by first | with_reducible rfl | (simp (disch := decide) only [zua_sort, zua_zua, zua_self, zuf_sort1, zuf_sort2, zuf_zuf, zuf_self])) (zlp_K k_md_reckonsTo_16 h hq)
theorem ok_md_reckonsTo (X : Nat × (Nat → Int32)) : zOkS X 181 S_md_reckonsTo 2 := zOkS_new (zOkE_cons (ok_md_reckon X) (by decide) (zOkE_nil X 1)) (by
  intro args g o h
  obtain ⟨ar, fi, m1, m2, m3, m4, m5⟩ := g
  unfold S_md_reckonsTo P_md_reckonsTo at h
  split at h
  · refine zb_el h (fun hI0 k0 => ?_) (fun _ h10 => ?_)
    · try simp only [Bool.and_eq_true] at hI0
      have j0 := hI0
      have e0 := Nat.eq_of_beq_eq_true j0
      subst e0
      exact zpe_el k0 (fun t ht ho => e_md_reckonsTo t ht ho)
    · cases h10
  · cases h)
abbrev T_md_byLaw : Type := Int32 × (Nat → Int32)
abbrev U_md_byLaw_3 : Type := Int32 × (Nat → Int32)
noncomputable def b_md_byLaw_3 (x : Int32) (y : Int32) (z : Int32) (a77 : Nat → Int32) (a78 : Nat → Int32) (a79 : Nat → Int32) (a80 : Nat → Int32) (a81 : Nat → Int32) (a83 : Nat → Int32) (f64_15 : Int32) (l4 : Int32) (b82 : Nat → Int32) : Option (U_md_byLaw_3 ⊕ T_md_byLaw) :=
  bif decide (f64_15 ≤ l4) then
   some (.inr (y, b82))
  else
   zg (zin l4 16) (
   bif !decide (a78 (l4.toNatClampNeg) = x) then
    some (.inl (l4 + 1, b82))
   else
    zg (zin l4 16) (
    zg (zin l4 16) (
    zbd (q_md_reckonsTo (a80 (l4.toNatClampNeg)) (a81 (l4.toNatClampNeg)) a77 b82 a83) (fun v1 =>
    bif decide ((v1.1) = 1) then
     zg (zin l4 16) (
     zg (zin l4 16) (
     zbd (q_md_reckonsTo (a79 (l4.toNatClampNeg)) (a80 (l4.toNatClampNeg)) a77 ((v1.2)) a83) (fun v2 =>
     bif decide (y ≤ (v2.1)) then
      bif decide ((v2.1) ≤ z) then
       some (.inr ((v2.1), ((v2.2))))
      else
       some (.inr (z, ((v2.2))))
     else
      some (.inr (y, ((v2.2)))))))
    else
     some (.inl (l4 + 1, ((v1.2))))))))
noncomputable def f_md_byLaw_3 (x : Int32) (y : Int32) (z : Int32) (a77 : Nat → Int32) (a78 : Nat → Int32) (a79 : Nat → Int32) (a80 : Nat → Int32) (a81 : Nat → Int32) (a83 : Nat → Int32) (f64_15 : Int32) : U_md_byLaw_3 → Option (U_md_byLaw_3 ⊕ T_md_byLaw) := fun s => b_md_byLaw_3 x y z a77 a78 a79 a80 a81 a83 f64_15 s.1 s.2
noncomputable def l_md_byLaw_3 (x : Int32) (y : Int32) (z : Int32) (a77 : Nat → Int32) (a78 : Nat → Int32) (a79 : Nat → Int32) (a80 : Nat → Int32) (a81 : Nat → Int32) (a83 : Nat → Int32) (f64_15 : Int32) (l4 : Int32) (b82 : Nat → Int32) : Option T_md_byLaw := zlp (f_md_byLaw_3 x y z a77 a78 a79 a80 a81 a83 f64_15) (l4, b82)
noncomputable def q_md_byLaw (x : Int32) (y : Int32) (z : Int32) (a77 : Nat → Int32) (a78 : Nat → Int32) (a79 : Nat → Int32) (a80 : Nat → Int32) (a81 : Nat → Int32) (a82 : Nat → Int32) (a83 : Nat → Int32) (f64_15 : Int32) : Option T_md_byLaw :=
  l_md_byLaw_3 x y z a77 a78 a79 a80 a81 a83 f64_15 0 a82
def P_md_byLaw (Q : Int32 → Int32 → Int32 → (Nat → Int32) → (Nat → Int32) → (Nat → Int32) → (Nat → Int32) → (Nat → Int32) → (Nat → Int32) → (Nat → Int32) → Int32 → Option (Int32 × (Nat → Int32))) : zSp := fun as g => match as with
  | [.ref a, .int x, .int y, .int z] => bif Nat.beq a 64 then zpe (Q x y z (g.1 77) (g.1 78) (g.1 79) (g.1 80) (g.1 81) (g.1 82) (g.1 83) (g.2.1 64 15)) (fun t => (some (.int (t.1)), ((zua g.1 82 t.2), g.2.1, g.2.2))) else none
  | _ => none
noncomputable abbrev S_md_byLaw : zSp := P_md_byLaw q_md_byLaw
def O_md_byLaw (ar fi : Nat → Nat → Int32) (m1 : Nat) (m2 : Nat) (m3 : Nat) (m4 : Nat) (m5 : Nat) (t : T_md_byLaw) : zO2 := (some (.int (t.1)), ((zua ar 82 t.2), fi, (m1, m2, m3, m4, m5)))
def M_md_byLaw_3 (X : Nat × (Nat → Int32)) (E : zTE) (ar fi : Nat → Nat → Int32) (m1 : Nat) (m2 : Nat) (m3 : Nat) (m4 : Nat) (m5 : Nat) (x : Int32) (y : Int32) (z : Int32) (o : zO2) (s : U_md_byLaw_3) : Prop := zR2 X zFT E zc_182 3 [.ref 64, .int x, .int y, .int z, .int s.1] [] ((zua ar 82 s.2), fi, (m1, m2, m3, m4, m5)) o
set_option maxRecDepth 20000 in
theorem t3_md_byLaw {X : Nat × (Nat → Int32)} {ar fi : Nat → Nat → Int32} {m1 m2 m3 m4 m5 : Nat} {x y z : Int32} {l4 : Int32} {b82 : Nat → Int32} {Q_md_reckonsTo : Int32 → Int32 → (Nat → Int32) → (Nat → Int32) → (Nat → Int32) → Option (Int32 × (Nat → Int32))} : zseg X zFT (zEx 181 (P_md_reckonsTo Q_md_reckonsTo) zE0) zc_182 (fun p => Nat.beq p 3) 400 3 [.ref 64, .int x, .int y, .int z, .int l4] [] ((zua ar 82 b82), fi, (m1, m2, m3, m4, m5)) = (
  bif decide (fi 64 15 ≤ l4) then
   some (.inr (some (.int y), ((zua ar 82 b82), fi, (m1, m2, m3, m4, m5))))
  else
   zg (zin l4 16) (
   bif !decide ((ar 78) (l4.toNatClampNeg) = x) then
    some (.inl (3, [.ref 64, .int x, .int y, .int z, .int (l4 + 1)], [], ((zua ar 82 b82), fi, (m1, m2, m3, m4, m5))))
   else
    zg (zin l4 16) (
    zg (zin l4 16) (
    zl (Q_md_reckonsTo ((ar 80) (l4.toNatClampNeg)) ((ar 81) (l4.toNatClampNeg)) (ar 77) b82 (ar 83)) (fun v1 => zg v1.isSome (
    bif decide (((zgt v1).1) = 1) then
     zg (zin l4 16) (
     zg (zin l4 16) (
     zl (Q_md_reckonsTo ((ar 79) (l4.toNatClampNeg)) ((ar 80) (l4.toNatClampNeg)) (ar 77) (((zgt v1).2)) (ar 83)) (fun v2 => zg v2.isSome (
     bif decide (y ≤ ((zgt v2).1)) then
      bif decide (((zgt v2).1) ≤ z) then
       some (.inr (some (.int (((zgt v2).1))), ((zua (zua (zua ar 82 b82) 82 (((zgt v1).2))) 82 (((zgt v2).2))), fi, (m1, m2, m3, m4, m5))))
      else
       some (.inr (some (.int z), ((zua (zua (zua ar 82 b82) 82 (((zgt v1).2))) 82 (((zgt v2).2))), fi, (m1, m2, m3, m4, m5))))
     else
      some (.inr (some (.int y), ((zua (zua (zua ar 82 b82) 82 (((zgt v1).2))) 82 (((zgt v2).2))), fi, (m1, m2, m3, m4, m5))))))))
    else
     some (.inl (3, [.ref 64, .int x, .int y, .int z, .int (l4 + 1)], [], ((zua (zua ar 82 b82) 82 (((zgt v1).2))), fi, (m1, m2, m3, m4, m5))))))))) : Option ((Nat × List Value × List Value × zH2) ⊕ zO2)) := rfl
theorem k_md_byLaw_3 {X : Nat × (Nat → Int32)} {ar fi : Nat → Nat → Int32} {m1 m2 m3 m4 m5 : Nat} {x y z : Int32} {o : zO2} : ∀ (s : U_md_byLaw_3) (q : U_md_byLaw_3 ⊕ T_md_byLaw), f_md_byLaw_3 x y z (ar 77) (ar 78) (ar 79) (ar 80) (ar 81) (ar 83) (fi 64 15) s = some q → zq (M_md_byLaw_3 X (zEx 181 S_md_reckonsTo zE0) ar fi m1 m2 m3 m4 m5 x y z o) (fun t => O_md_byLaw ar fi m1 m2 m3 m4 m5 t = o) q → M_md_byLaw_3 X (zEx 181 S_md_reckonsTo zE0) ar fi m1 m2 m3 m4 m5 x y z o s := by
  intro s q h hq
  obtain ⟨l4, b82⟩ := s
  have h : b_md_byLaw_3 x y z (ar 77) (ar 78) (ar 79) (ar 80) (ar 81) (ar 83) (fi 64 15) l4 b82 = some q := h
  unfold b_md_byLaw_3 at h
  show zR2 X zFT (zEx 181 S_md_reckonsTo zE0) zc_182 3 [.ref 64, .int x, .int y, .int z, .int l4] [] ((zua ar 82 b82), fi, (m1, m2, m3, m4, m5)) o
  refine zT_seg t3_md_byLaw ?_
  refine zb_el h (fun hb h => zT_t hb ?_) (fun hb h => zT_f hb ?_)
  · have hz := zsi h hq
    exact (zO_mk (by first | with_reducible rfl | (simp (disch := decide) only [zua_sort, zua_zua, zua_self, zuf_sort1, zuf_sort2, zuf_zuf, zuf_self])) (by first | with_reducible rfl | (simp (disch := decide) only [zua_sort, zua_zua, zua_self, zuf_sort1, zuf_sort2, zuf_zuf, zuf_self]))).trans hz
  · refine zg_el h (fun hg h => zT_g hg ?_)
    refine zb_el h (fun hb h => zT_t hb ?_) (fun hb h => zT_f hb ?_)
    · have hz := zsi h hq
      exact zR2_hp (by first | with_reducible rfl | (simp (disch := decide) only [zua_sort, zua_zua, zua_self, zuf_sort1, zuf_sort2, zuf_zuf, zuf_self])) (by first | with_reducible rfl | (simp (disch := decide) only [zua_sort, zua_zua, zua_self, zuf_sort1, zuf_sort2, zuf_zuf, zuf_self])) hz
    · refine zg_el h (fun hg h => zT_g hg ?_)
      refine zg_el h (fun hg h => zT_g hg ?_)
      refine zbd_el h (fun v1 hv h => zT_c hv ?_)
      refine zb_el h (fun hb h => zT_t hb ?_) (fun hb h => zT_f hb ?_)
      · refine zg_el h (fun hg h => zT_g hg ?_)
        refine zg_el h (fun hg h => zT_g hg ?_)
        refine zbd_el h (fun v2 hv h => zT_c hv ?_)
        refine zb_el h (fun hb h => zT_t hb ?_) (fun hb h => zT_f hb ?_)
        · refine zb_el h (fun hb h => zT_t hb ?_) (fun hb h => zT_f hb ?_)
          · have hz := zsi h hq
            exact (zO_mk (by first | with_reducible rfl | (simp (disch := decide) only [zua_sort, zua_zua, zua_self, zuf_sort1, zuf_sort2, zuf_zuf, zuf_self])) (by first | with_reducible rfl | (simp (disch := decide) only [zua_sort, zua_zua, zua_self, zuf_sort1, zuf_sort2, zuf_zuf, zuf_self]))).trans hz
          · have hz := zsi h hq
            exact (zO_mk (by first | with_reducible rfl | (simp (disch := decide) only [zua_sort, zua_zua, zua_self, zuf_sort1, zuf_sort2, zuf_zuf, zuf_self])) (by first | with_reducible rfl | (simp (disch := decide) only [zua_sort, zua_zua, zua_self, zuf_sort1, zuf_sort2, zuf_zuf, zuf_self]))).trans hz
        · have hz := zsi h hq
          exact (zO_mk (by first | with_reducible rfl | (simp (disch := decide) only [zua_sort, zua_zua, zua_self, zuf_sort1, zuf_sort2, zuf_zuf, zuf_self])) (by first | with_reducible rfl | (simp (disch := decide) only [zua_sort, zua_zua, zua_self, zuf_sort1, zuf_sort2, zuf_zuf, zuf_self]))).trans hz
      · have hz := zsi h hq
        exact zR2_hp (by first | with_reducible rfl | (simp (disch := decide) only [zua_sort, zua_zua, zua_self, zuf_sort1, zuf_sort2, zuf_zuf, zuf_self])) (by first | with_reducible rfl | (simp (disch := decide) only [zua_sort, zua_zua, zua_self, zuf_sort1, zuf_sort2, zuf_zuf, zuf_self])) hz
set_option maxRecDepth 20000 in
theorem t_md_byLaw {X : Nat × (Nat → Int32)} {ar fi : Nat → Nat → Int32} {m1 m2 m3 m4 m5 : Nat} {x y z : Int32} {Q_md_reckonsTo : Int32 → Int32 → (Nat → Int32) → (Nat → Int32) → (Nat → Int32) → Option (Int32 × (Nat → Int32))} : zseg X zFT (zEx 181 (P_md_reckonsTo Q_md_reckonsTo) zE0) zc_182 (fun p => Nat.beq p 3) 400 0 [.ref 64, .int x, .int y, .int z] [] (ar, fi, (m1, m2, m3, m4, m5)) = (
  some (.inl (3, [.ref 64, .int x, .int y, .int z, .int 0], [], (ar, fi, (m1, m2, m3, m4, m5)))) : Option ((Nat × List Value × List Value × zH2) ⊕ zO2)) := rfl
theorem e_md_byLaw {X : Nat × (Nat → Int32)} {ar fi : Nat → Nat → Int32} {m1 m2 m3 m4 m5 : Nat} {x y z : Int32} {o : zO2} : ∀ (q : T_md_byLaw), q_md_byLaw x y z (ar 77) (ar 78) (ar 79) (ar 80) (ar 81) (ar 82) (ar 83) (fi 64 15) = some q → (fun t => O_md_byLaw ar fi m1 m2 m3 m4 m5 t = o) q → zR2 X zFT (zEx 181 S_md_reckonsTo zE0) zc_182 0 [.ref 64, .int x, .int y, .int z] [] (ar, fi, (m1, m2, m3, m4, m5)) o := by
  intro q h hq
  unfold q_md_byLaw at h
  refine zT_seg t_md_byLaw ?_
  exact zR2_hp (by first | with_reducible rfl | (simp (disch := decide) only [zua_sort, zua_zua, zua_self, zuf_sort1, zuf_sort2, zuf_zuf, zuf_self])) (by first | with_reducible rfl | (simp (disch := decide) only [zua_sort, zua_zua, zua_self, zuf_sort1, zuf_sort2, zuf_zuf, zuf_self])) (zlp_K k_md_byLaw_3 h hq)
theorem ok_md_byLaw (X : Nat × (Nat → Int32)) : zOkS X 182 S_md_byLaw 3 := zOkS_new (zOkE_cons (ok_md_reckonsTo X) (by decide) (zOkE_nil X 2)) (by
  intro args g o h
  obtain ⟨ar, fi, m1, m2, m3, m4, m5⟩ := g
  unfold S_md_byLaw P_md_byLaw at h
  split at h
  · refine zb_el h (fun hI0 k0 => ?_) (fun _ h10 => ?_)
    · try simp only [Bool.and_eq_true] at hI0
      have j0 := hI0
      have e0 := Nat.eq_of_beq_eq_true j0
      subst e0
      exact zpe_el k0 (fun t ht ho => e_md_byLaw t ht ho)
    · cases h10
  · cases h)
abbrev T_md_holdsAny : Type := Int32 × (Nat → Int32)
abbrev U_md_holdsAny_2 : Type := Int32 × (Nat → Int32)
noncomputable def b_md_holdsAny_2 (x : Int32) (a77 : Nat → Int32) (a78 : Nat → Int32) (a80 : Nat → Int32) (a81 : Nat → Int32) (a83 : Nat → Int32) (f64_15 : Int32) (l2 : Int32) (b82 : Nat → Int32) : Option (U_md_holdsAny_2 ⊕ T_md_holdsAny) :=
  bif decide (f64_15 ≤ l2) then
   some (.inr (0, b82))
  else
   zg (zin l2 16) (
   bif !decide (a78 (l2.toNatClampNeg) = x) then
    some (.inl (l2 + 1, b82))
   else
    zg (zin l2 16) (
    zg (zin l2 16) (
    zbd (q_md_reckonsTo (a80 (l2.toNatClampNeg)) (a81 (l2.toNatClampNeg)) a77 b82 a83) (fun v1 =>
    bif !decide ((v1.1) = 1) then
     some (.inl (l2 + 1, ((v1.2))))
    else
     some (.inr (1, ((v1.2))))))))
noncomputable def f_md_holdsAny_2 (x : Int32) (a77 : Nat → Int32) (a78 : Nat → Int32) (a80 : Nat → Int32) (a81 : Nat → Int32) (a83 : Nat → Int32) (f64_15 : Int32) : U_md_holdsAny_2 → Option (U_md_holdsAny_2 ⊕ T_md_holdsAny) := fun s => b_md_holdsAny_2 x a77 a78 a80 a81 a83 f64_15 s.1 s.2
noncomputable def l_md_holdsAny_2 (x : Int32) (a77 : Nat → Int32) (a78 : Nat → Int32) (a80 : Nat → Int32) (a81 : Nat → Int32) (a83 : Nat → Int32) (f64_15 : Int32) (l2 : Int32) (b82 : Nat → Int32) : Option T_md_holdsAny := zlp (f_md_holdsAny_2 x a77 a78 a80 a81 a83 f64_15) (l2, b82)
noncomputable def q_md_holdsAny (x : Int32) (a77 : Nat → Int32) (a78 : Nat → Int32) (a80 : Nat → Int32) (a81 : Nat → Int32) (a82 : Nat → Int32) (a83 : Nat → Int32) (f64_15 : Int32) : Option T_md_holdsAny :=
  l_md_holdsAny_2 x a77 a78 a80 a81 a83 f64_15 0 a82
def P_md_holdsAny (Q : Int32 → (Nat → Int32) → (Nat → Int32) → (Nat → Int32) → (Nat → Int32) → (Nat → Int32) → (Nat → Int32) → Int32 → Option (Int32 × (Nat → Int32))) : zSp := fun as g => match as with
  | [.ref a, .int x] => bif Nat.beq a 64 then zpe (Q x (g.1 77) (g.1 78) (g.1 80) (g.1 81) (g.1 82) (g.1 83) (g.2.1 64 15)) (fun t => (some (.int (t.1)), ((zua g.1 82 t.2), g.2.1, g.2.2))) else none
  | _ => none
noncomputable abbrev S_md_holdsAny : zSp := P_md_holdsAny q_md_holdsAny
def O_md_holdsAny (ar fi : Nat → Nat → Int32) (m1 : Nat) (m2 : Nat) (m3 : Nat) (m4 : Nat) (m5 : Nat) (t : T_md_holdsAny) : zO2 := (some (.int (t.1)), ((zua ar 82 t.2), fi, (m1, m2, m3, m4, m5)))
def M_md_holdsAny_2 (X : Nat × (Nat → Int32)) (E : zTE) (ar fi : Nat → Nat → Int32) (m1 : Nat) (m2 : Nat) (m3 : Nat) (m4 : Nat) (m5 : Nat) (x : Int32) (o : zO2) (s : U_md_holdsAny_2) : Prop := zR2 X zFT E zc_183 2 [.ref 64, .int x, .int s.1] [] ((zua ar 82 s.2), fi, (m1, m2, m3, m4, m5)) o
set_option maxRecDepth 20000 in
theorem t2_md_holdsAny {X : Nat × (Nat → Int32)} {ar fi : Nat → Nat → Int32} {m1 m2 m3 m4 m5 : Nat} {x : Int32} {l2 : Int32} {b82 : Nat → Int32} {Q_md_reckonsTo : Int32 → Int32 → (Nat → Int32) → (Nat → Int32) → (Nat → Int32) → Option (Int32 × (Nat → Int32))} : zseg X zFT (zEx 181 (P_md_reckonsTo Q_md_reckonsTo) zE0) zc_183 (fun p => Nat.beq p 2) 400 2 [.ref 64, .int x, .int l2] [] ((zua ar 82 b82), fi, (m1, m2, m3, m4, m5)) = (
  bif decide (fi 64 15 ≤ l2) then
   some (.inr (some (.int 0), ((zua ar 82 b82), fi, (m1, m2, m3, m4, m5))))
  else
   zg (zin l2 16) (
   bif !decide ((ar 78) (l2.toNatClampNeg) = x) then
    some (.inl (2, [.ref 64, .int x, .int (l2 + 1)], [], ((zua ar 82 b82), fi, (m1, m2, m3, m4, m5))))
   else
    zg (zin l2 16) (
    zg (zin l2 16) (
    zl (Q_md_reckonsTo ((ar 80) (l2.toNatClampNeg)) ((ar 81) (l2.toNatClampNeg)) (ar 77) b82 (ar 83)) (fun v1 => zg v1.isSome (
    bif !decide (((zgt v1).1) = 1) then
     some (.inl (2, [.ref 64, .int x, .int (l2 + 1)], [], ((zua (zua ar 82 b82) 82 (((zgt v1).2))), fi, (m1, m2, m3, m4, m5))))
    else
     some (.inr (some (.int 1), ((zua (zua ar 82 b82) 82 (((zgt v1).2))), fi, (m1, m2, m3, m4, m5))))))))) : Option ((Nat × List Value × List Value × zH2) ⊕ zO2)) := rfl
theorem k_md_holdsAny_2 {X : Nat × (Nat → Int32)} {ar fi : Nat → Nat → Int32} {m1 m2 m3 m4 m5 : Nat} {x : Int32} {o : zO2} : ∀ (s : U_md_holdsAny_2) (q : U_md_holdsAny_2 ⊕ T_md_holdsAny), f_md_holdsAny_2 x (ar 77) (ar 78) (ar 80) (ar 81) (ar 83) (fi 64 15) s = some q → zq (M_md_holdsAny_2 X (zEx 181 S_md_reckonsTo zE0) ar fi m1 m2 m3 m4 m5 x o) (fun t => O_md_holdsAny ar fi m1 m2 m3 m4 m5 t = o) q → M_md_holdsAny_2 X (zEx 181 S_md_reckonsTo zE0) ar fi m1 m2 m3 m4 m5 x o s := by
  intro s q h hq
  obtain ⟨l2, b82⟩ := s
  have h : b_md_holdsAny_2 x (ar 77) (ar 78) (ar 80) (ar 81) (ar 83) (fi 64 15) l2 b82 = some q := h
  unfold b_md_holdsAny_2 at h
  show zR2 X zFT (zEx 181 S_md_reckonsTo zE0) zc_183 2 [.ref 64, .int x, .int l2] [] ((zua ar 82 b82), fi, (m1, m2, m3, m4, m5)) o
  refine zT_seg t2_md_holdsAny ?_
  refine zb_el h (fun hb h => zT_t hb ?_) (fun hb h => zT_f hb ?_)
  · have hz := zsi h hq
    exact (zO_mk (by first | with_reducible rfl | (simp (disch := decide) only [zua_sort, zua_zua, zua_self, zuf_sort1, zuf_sort2, zuf_zuf, zuf_self])) (by first | with_reducible rfl | (simp (disch := decide) only [zua_sort, zua_zua, zua_self, zuf_sort1, zuf_sort2, zuf_zuf, zuf_self]))).trans hz
  · refine zg_el h (fun hg h => zT_g hg ?_)
    refine zb_el h (fun hb h => zT_t hb ?_) (fun hb h => zT_f hb ?_)
    · have hz := zsi h hq
      exact zR2_hp (by first | with_reducible rfl | (simp (disch := decide) only [zua_sort, zua_zua, zua_self, zuf_sort1, zuf_sort2, zuf_zuf, zuf_self])) (by first | with_reducible rfl | (simp (disch := decide) only [zua_sort, zua_zua, zua_self, zuf_sort1, zuf_sort2, zuf_zuf, zuf_self])) hz
    · refine zg_el h (fun hg h => zT_g hg ?_)
      refine zg_el h (fun hg h => zT_g hg ?_)
      refine zbd_el h (fun v1 hv h => zT_c hv ?_)
      refine zb_el h (fun hb h => zT_t hb ?_) (fun hb h => zT_f hb ?_)
      · have hz := zsi h hq
        exact zR2_hp (by first | with_reducible rfl | (simp (disch := decide) only [zua_sort, zua_zua, zua_self, zuf_sort1, zuf_sort2, zuf_zuf, zuf_self])) (by first | with_reducible rfl | (simp (disch := decide) only [zua_sort, zua_zua, zua_self, zuf_sort1, zuf_sort2, zuf_zuf, zuf_self])) hz
      · have hz := zsi h hq
        exact (zO_mk (by first | with_reducible rfl | (simp (disch := decide) only [zua_sort, zua_zua, zua_self, zuf_sort1, zuf_sort2, zuf_zuf, zuf_self])) (by first | with_reducible rfl | (simp (disch := decide) only [zua_sort, zua_zua, zua_self, zuf_sort1, zuf_sort2, zuf_zuf, zuf_self]))).trans hz
set_option maxRecDepth 20000 in
theorem t_md_holdsAny {X : Nat × (Nat → Int32)} {ar fi : Nat → Nat → Int32} {m1 m2 m3 m4 m5 : Nat} {x : Int32} {Q_md_reckonsTo : Int32 → Int32 → (Nat → Int32) → (Nat → Int32) → (Nat → Int32) → Option (Int32 × (Nat → Int32))} : zseg X zFT (zEx 181 (P_md_reckonsTo Q_md_reckonsTo) zE0) zc_183 (fun p => Nat.beq p 2) 400 0 [.ref 64, .int x] [] (ar, fi, (m1, m2, m3, m4, m5)) = (
  some (.inl (2, [.ref 64, .int x, .int 0], [], (ar, fi, (m1, m2, m3, m4, m5)))) : Option ((Nat × List Value × List Value × zH2) ⊕ zO2)) := rfl
theorem e_md_holdsAny {X : Nat × (Nat → Int32)} {ar fi : Nat → Nat → Int32} {m1 m2 m3 m4 m5 : Nat} {x : Int32} {o : zO2} : ∀ (q : T_md_holdsAny), q_md_holdsAny x (ar 77) (ar 78) (ar 80) (ar 81) (ar 82) (ar 83) (fi 64 15) = some q → (fun t => O_md_holdsAny ar fi m1 m2 m3 m4 m5 t = o) q → zR2 X zFT (zEx 181 S_md_reckonsTo zE0) zc_183 0 [.ref 64, .int x] [] (ar, fi, (m1, m2, m3, m4, m5)) o := by
  intro q h hq
  unfold q_md_holdsAny at h
  refine zT_seg t_md_holdsAny ?_
  exact zR2_hp (by first | with_reducible rfl | (simp (disch := decide) only [zua_sort, zua_zua, zua_self, zuf_sort1, zuf_sort2, zuf_zuf, zuf_self])) (by first | with_reducible rfl | (simp (disch := decide) only [zua_sort, zua_zua, zua_self, zuf_sort1, zuf_sort2, zuf_zuf, zuf_self])) (zlp_K k_md_holdsAny_2 h hq)
theorem ok_md_holdsAny (X : Nat × (Nat → Int32)) : zOkS X 183 S_md_holdsAny 3 := zOkS_new (zOkE_cons (ok_md_reckonsTo X) (by decide) (zOkE_nil X 2)) (by
  intro args g o h
  obtain ⟨ar, fi, m1, m2, m3, m4, m5⟩ := g
  unfold S_md_holdsAny P_md_holdsAny at h
  split at h
  · refine zb_el h (fun hI0 k0 => ?_) (fun _ h10 => ?_)
    · try simp only [Bool.and_eq_true] at hI0
      have j0 := hI0
      have e0 := Nat.eq_of_beq_eq_true j0
      subst e0
      exact zpe_el k0 (fun t ht ho => e_md_holdsAny t ht ho)
    · cases h10
  · cases h)
abbrev T_md_readsRow : Type := Int32 × (Nat → Int32) × Int32 × Int32
abbrev U_md_readsRow_27 : Type := Int32 × Int32 × (Nat → Int32) × Int32
abbrev U_md_readsRow_129 : Type := Int32 × (Nat → Int32)
def b_md_readsRow_129 (x : Int32) (a70 : Nat → Int32) (f64_8 : Int32) (l2 : Int32) (l5 : Int32) (l6 : Int32) (c64_7 : Int32) (l7 : Int32) (b84 : Nat → Int32) : Option (U_md_readsRow_129 ⊕ (U_md_readsRow_27 ⊕ T_md_readsRow)) :=
  bif decide (l5 ≤ l7) then
   bif decide (f64_8 ≤ c64_7) then
    some (.inr (.inl (l2 + l5, 0, b84, c64_7)))
   else
    zg (g_md_here (f64_8) c64_7 a70) (
    zl (w_md_here (f64_8) c64_7 a70) (fun v19 =>
    bif decide (v19 = 47) then
     some (.inr (.inl (l2 + l5, 0, b84, c64_7)))
    else
     some (.inr (.inl (l2 + l5, 1, b84, c64_7)))))
  else
   zg (zin (((12 * x) + l2) + l7) 96) (
   some (.inl (l7 + 1, (zup b84 ((((12 * x) + l2) + l7).toNatClampNeg) l6))))
def f_md_readsRow_129 (x : Int32) (a70 : Nat → Int32) (f64_8 : Int32) (l2 : Int32) (l5 : Int32) (l6 : Int32) (c64_7 : Int32) : U_md_readsRow_129 → Option (U_md_readsRow_129 ⊕ (U_md_readsRow_27 ⊕ T_md_readsRow)) := fun s => b_md_readsRow_129 x a70 f64_8 l2 l5 l6 c64_7 s.1 s.2
noncomputable def l_md_readsRow_129 (x : Int32) (a70 : Nat → Int32) (f64_8 : Int32) (l2 : Int32) (l5 : Int32) (l6 : Int32) (c64_7 : Int32) (l7 : Int32) (b84 : Nat → Int32) : Option (U_md_readsRow_27 ⊕ T_md_readsRow) := zlp (f_md_readsRow_129 x a70 f64_8 l2 l5 l6 c64_7) (l7, b84)
noncomputable def b_md_readsRow_27 (x : Int32) (a70 : Nat → Int32) (f64_8 : Int32) (f64_9 : Int32) (l2 : Int32) (l3 : Int32) (b84 : Nat → Int32) (c64_7 : Int32) : Option (U_md_readsRow_27 ⊕ T_md_readsRow) :=
  bif decide (l3 = 0) then
   some (.inr (1, b84, c64_7, f64_9))
  else
   zg (g_md_here (f64_8) c64_7 a70) (
   zl (w_md_here (f64_8) c64_7 a70) (fun v4 =>
   zl (w_md_in v4 50 57) (fun v5 =>
   bif decide (v5 = 0) then
    zg (g_md_here (f64_8) c64_7 a70) (
    zl (w_md_here (f64_8) c64_7 a70) (fun v6 =>
    zl (w_md_kindBy v6) (fun v7 =>
    bif !decide (v7 = (-1)) then
     bif decide (l2 + 1 ≤ 12) then
      l_md_readsRow_129 x a70 f64_8 l2 1 v7 (c64_7 + 1) 0 b84
     else
      zl (w_md_wrongAt 6 c64_7) (fun v8 =>
      zl (f0_md_wrongAt 6 c64_7) (fun v9 =>
      zg (decide (v8 = 0) || decide (v8 = 1)) (
      some (.inr (v8, b84, c64_7, v9)))))
    else
     zl (w_md_wrongAt 1 c64_7) (fun v10 =>
     zl (f0_md_wrongAt 1 c64_7) (fun v11 =>
     zg (decide (v10 = 0) || decide (v10 = 1)) (
     some (.inr (v10, b84, c64_7, v11))))))))
   else
    zg (g_md_here (f64_8) c64_7 a70) (
    zl (w_md_here (f64_8) c64_7 a70) (fun v12 =>
    zg (g_md_here (f64_8) (c64_7 + 1) a70) (
    zl (w_md_here (f64_8) (c64_7 + 1) a70) (fun v13 =>
    zl (w_md_kindBy v13) (fun v14 =>
    bif !decide (v14 = (-1)) then
     bif decide (l2 + (v12 - 48) ≤ 12) then
      l_md_readsRow_129 x a70 f64_8 l2 (v12 - 48) v14 ((c64_7 + 1) + 1) 0 b84
     else
      zl (w_md_wrongAt 6 c64_7) (fun v15 =>
      zl (f0_md_wrongAt 6 c64_7) (fun v16 =>
      zg (decide (v15 = 0) || decide (v15 = 1)) (
      some (.inr (v15, b84, c64_7 + 1, v16)))))
    else
     zl (w_md_wrongAt 1 (c64_7 + 1)) (fun v17 =>
     zl (f0_md_wrongAt 1 (c64_7 + 1)) (fun v18 =>
     zg (decide (v17 = 0) || decide (v17 = 1)) (
     some (.inr (v17, b84, c64_7 + 1, v18)))))))))))))
noncomputable def f_md_readsRow_27 (x : Int32) (a70 : Nat → Int32) (f64_8 : Int32) (f64_9 : Int32) : U_md_readsRow_27 → Option (U_md_readsRow_27 ⊕ T_md_readsRow) := fun s => b_md_readsRow_27 x a70 f64_8 f64_9 s.1 s.2.1 s.2.2.1 s.2.2.2
noncomputable def l_md_readsRow_27 (x : Int32) (a70 : Nat → Int32) (f64_8 : Int32) (f64_9 : Int32) (l2 : Int32) (l3 : Int32) (b84 : Nat → Int32) (c64_7 : Int32) : Option T_md_readsRow := zlp (f_md_readsRow_27 x a70 f64_8 f64_9) (l2, l3, b84, c64_7)
noncomputable def q_md_readsRow (x : Int32) (a70 : Nat → Int32) (a84 : Nat → Int32) (f64_7 : Int32) (f64_8 : Int32) (f64_9 : Int32) : Option T_md_readsRow :=
  bif !decide (x = 8) then
   l_md_readsRow_27 x a70 f64_8 f64_9 0 1 a84 (f64_7)
  else
   zg (g_md_canBeginRow (f64_8) (f64_7) a70) (
   zl (w_md_canBeginRow (f64_8) (f64_7) a70) (fun v1 =>
   bif decide (v1 = 0) then
    l_md_readsRow_27 x a70 f64_8 f64_9 0 1 a84 (f64_7)
   else
    zl (w_md_wrongAt 4 (f64_7)) (fun v2 =>
    zl (f0_md_wrongAt 4 (f64_7)) (fun v3 =>
    zg (decide (v2 = 0) || decide (v2 = 1)) (
    some (v2, a84, f64_7, v3))))))
def P_md_readsRow (Q : Int32 → (Nat → Int32) → (Nat → Int32) → Int32 → Int32 → Int32 → Option (Int32 × (Nat → Int32) × Int32 × Int32)) : zSp := fun as g => match as with
  | [.ref a, .int x] => bif Nat.beq a 64 then zpe (Q x (g.1 70) (g.1 84) (g.2.1 64 7) (g.2.1 64 8) (g.2.1 64 9)) (fun t => (some (.int (t.1)), ((zua g.1 84 t.2.1), (zuf (zuf g.2.1 64 7 t.2.2.1) 64 9 t.2.2.2), g.2.2))) else none
  | _ => none
noncomputable abbrev S_md_readsRow : zSp := P_md_readsRow q_md_readsRow
def O_md_readsRow (ar fi : Nat → Nat → Int32) (m1 : Nat) (m2 : Nat) (m3 : Nat) (m4 : Nat) (m5 : Nat) (t : T_md_readsRow) : zO2 := (some (.int (t.1)), ((zua ar 84 t.2.1), (zuf (zuf fi 64 7 t.2.2.1) 64 9 t.2.2.2), (m1, m2, m3, m4, m5)))
def M_md_readsRow_129 (X : Nat × (Nat → Int32)) (E : zTE) (ar fi : Nat → Nat → Int32) (m1 : Nat) (m2 : Nat) (m3 : Nat) (m4 : Nat) (m5 : Nat) (x : Int32) (l2 : Int32) (l3 : Int32) (l4 : Int32) (l5 : Int32) (l6 : Int32) (c64_7 : Int32) (o : zO2) (s : U_md_readsRow_129) : Prop := zR2 X zFT E zc_186 129 [.ref 64, .int x, .int l2, .int l3, .int l4, .int l5, .int l6, .int s.1] [] ((zua ar 84 s.2), (zuf fi 64 7 c64_7), (m1, m2, m3, m4, m5)) o
def M_md_readsRow_27 (X : Nat × (Nat → Int32)) (E : zTE) (ar fi : Nat → Nat → Int32) (m1 : Nat) (m2 : Nat) (m3 : Nat) (m4 : Nat) (m5 : Nat) (x : Int32) (o : zO2) (s : U_md_readsRow_27) : Prop := zR2 X zFT E zc_186 27 [.ref 64, .int x, .int s.1, .int s.2.1] [] ((zua ar 84 s.2.2.1), (zuf fi 64 7 s.2.2.2), (m1, m2, m3, m4, m5)) o
set_option maxRecDepth 20000 in
theorem t129_md_readsRow {X : Nat × (Nat → Int32)} {ar fi : Nat → Nat → Int32} {m1 m2 m3 m4 m5 : Nat} {x : Int32} {l2 : Int32} {l3 : Int32} {l4 : Int32} {l5 : Int32} {l6 : Int32} {l7 : Int32} {b84 : Nat → Int32} {c64_7 : Int32} {G_md_canBeginRow : Int32 → Int32 → (Nat → Int32) → Bool} {W_md_canBeginRow : Int32 → Int32 → (Nat → Int32) → Int32} {W_md_wrongAt : Int32 → Int32 → Int32} {F0_md_wrongAt : Int32 → Int32 → Int32} {G_md_here : Int32 → Int32 → (Nat → Int32) → Bool} {W_md_here : Int32 → Int32 → (Nat → Int32) → Int32} {W_md_in : Int32 → Int32 → Int32 → Int32} {W_md_kindBy : Int32 → Int32} : zseg X zFT (zEx 185 (P_md_canBeginRow G_md_canBeginRow W_md_canBeginRow) (zEx 160 (P_md_wrongAt W_md_wrongAt F0_md_wrongAt) (zEx 158 (P_md_here G_md_here W_md_here) (zEx 143 (P_md_in W_md_in) (zEx 184 (P_md_kindBy W_md_kindBy) zE0))))) zc_186 (fun p => Nat.beq p 27 || Nat.beq p 129) 400 129 [.ref 64, .int x, .int l2, .int l3, .int l4, .int l5, .int l6, .int l7] [] ((zua ar 84 b84), (zuf fi 64 7 c64_7), (m1, m2, m3, m4, m5)) = (
  bif decide (l5 ≤ l7) then
   bif decide (fi 64 8 ≤ c64_7) then
    some (.inl (27, [.ref 64, .int x, .int (l2 + l5), .int 0], [], ((zua ar 84 b84), (zuf fi 64 7 c64_7), (m1, m2, m3, m4, m5))))
   else
    zg (G_md_here (fi 64 8) c64_7 (ar 70)) (
    zl (W_md_here (fi 64 8) c64_7 (ar 70)) (fun v19 =>
    bif decide (v19 = 47) then
     some (.inl (27, [.ref 64, .int x, .int (l2 + l5), .int 0], [], ((zua ar 84 b84), (zuf fi 64 7 c64_7), (m1, m2, m3, m4, m5))))
    else
     some (.inl (27, [.ref 64, .int x, .int (l2 + l5), .int 1], [], ((zua ar 84 b84), (zuf fi 64 7 c64_7), (m1, m2, m3, m4, m5))))))
  else
   zg (zin (((12 * x) + l2) + l7) 96) (
   some (.inl (129, [.ref 64, .int x, .int l2, .int l3, .int l4, .int l5, .int l6, .int (l7 + 1)], [], ((zua (zua ar 84 b84) 84 (zup b84 ((((12 * x) + l2) + l7).toNatClampNeg) l6)), (zuf fi 64 7 c64_7), (m1, m2, m3, m4, m5))))) : Option ((Nat × List Value × List Value × zH2) ⊕ zO2)) := rfl
theorem k_md_readsRow_129 {X : Nat × (Nat → Int32)} {ar fi : Nat → Nat → Int32} {m1 m2 m3 m4 m5 : Nat} {x : Int32} {l2 : Int32} {l3 : Int32} {l4 : Int32} {l5 : Int32} {l6 : Int32} {c64_7 : Int32} {o : zO2} : ∀ (s : U_md_readsRow_129) (q : U_md_readsRow_129 ⊕ (U_md_readsRow_27 ⊕ T_md_readsRow)), f_md_readsRow_129 x (ar 70) (fi 64 8) l2 l5 l6 c64_7 s = some q → zq (M_md_readsRow_129 X (zEx 185 S_md_canBeginRow (zEx 160 S_md_wrongAt (zEx 158 S_md_here (zEx 143 S_md_in (zEx 184 S_md_kindBy zE0))))) ar fi m1 m2 m3 m4 m5 x l2 l3 l4 l5 l6 c64_7 o) (zq (M_md_readsRow_27 X (zEx 185 S_md_canBeginRow (zEx 160 S_md_wrongAt (zEx 158 S_md_here (zEx 143 S_md_in (zEx 184 S_md_kindBy zE0))))) ar fi m1 m2 m3 m4 m5 x o) (fun t => O_md_readsRow ar fi m1 m2 m3 m4 m5 t = o)) q → M_md_readsRow_129 X (zEx 185 S_md_canBeginRow (zEx 160 S_md_wrongAt (zEx 158 S_md_here (zEx 143 S_md_in (zEx 184 S_md_kindBy zE0))))) ar fi m1 m2 m3 m4 m5 x l2 l3 l4 l5 l6 c64_7 o s := by
  intro s q h hq
  obtain ⟨l7, b84⟩ := s
  have h : b_md_readsRow_129 x (ar 70) (fi 64 8) l2 l5 l6 c64_7 l7 b84 = some q := h
  unfold b_md_readsRow_129 at h
  show zR2 X zFT (zEx 185 S_md_canBeginRow (zEx 160 S_md_wrongAt (zEx 158 S_md_here (zEx 143 S_md_in (zEx 184 S_md_kindBy zE0))))) zc_186 129 [.ref 64, .int x, .int l2, .int l3, .int l4, .int l5, .int l6, .int l7] [] ((zua ar 84 b84), (zuf fi 64 7 c64_7), (m1, m2, m3, m4, m5)) o
  refine zT_seg t129_md_readsRow ?_
  refine zb_el h (fun hb h => zT_t hb ?_) (fun hb h => zT_f hb ?_)
  · refine zb_el h (fun hb h => zT_t hb ?_) (fun hb h => zT_f hb ?_)
    · have hz := zsi h hq
      exact zR2_hp (by first | with_reducible rfl | (simp (disch := decide) only [zua_sort, zua_zua, zua_self, zuf_sort1, zuf_sort2, zuf_zuf, zuf_self])) (by first | with_reducible rfl | (simp (disch := decide) only [zua_sort, zua_zua, zua_self, zuf_sort1, zuf_sort2, zuf_zuf, zuf_self])) hz
    · refine zg_el h (fun hg h => zT_g hg ?_)
      refine zl_el h (fun h => zT_l ?_)
      refine zb_el h (fun hb h => zT_t hb ?_) (fun hb h => zT_f hb ?_)
      · have hz := zsi h hq
        exact zR2_hp (by first | with_reducible rfl | (simp (disch := decide) only [zua_sort, zua_zua, zua_self, zuf_sort1, zuf_sort2, zuf_zuf, zuf_self])) (by first | with_reducible rfl | (simp (disch := decide) only [zua_sort, zua_zua, zua_self, zuf_sort1, zuf_sort2, zuf_zuf, zuf_self])) hz
      · have hz := zsi h hq
        exact zR2_hp (by first | with_reducible rfl | (simp (disch := decide) only [zua_sort, zua_zua, zua_self, zuf_sort1, zuf_sort2, zuf_zuf, zuf_self])) (by first | with_reducible rfl | (simp (disch := decide) only [zua_sort, zua_zua, zua_self, zuf_sort1, zuf_sort2, zuf_zuf, zuf_self])) hz
  · refine zg_el h (fun hg h => zT_g hg ?_)
    have hz := zsi h hq
    exact zR2_hp (by first | with_reducible rfl | (simp (disch := decide) only [zua_sort, zua_zua, zua_self, zuf_sort1, zuf_sort2, zuf_zuf, zuf_self])) (by first | with_reducible rfl | (simp (disch := decide) only [zua_sort, zua_zua, zua_self, zuf_sort1, zuf_sort2, zuf_zuf, zuf_self])) hz
set_option maxRecDepth 20000 in
theorem t27_md_readsRow {X : Nat × (Nat → Int32)} {ar fi : Nat → Nat → Int32} {m1 m2 m3 m4 m5 : Nat} {x : Int32} {l2 : Int32} {l3 : Int32} {b84 : Nat → Int32} {c64_7 : Int32} {G_md_canBeginRow : Int32 → Int32 → (Nat → Int32) → Bool} {W_md_canBeginRow : Int32 → Int32 → (Nat → Int32) → Int32} {W_md_wrongAt : Int32 → Int32 → Int32} {F0_md_wrongAt : Int32 → Int32 → Int32} {G_md_here : Int32 → Int32 → (Nat → Int32) → Bool} {W_md_here : Int32 → Int32 → (Nat → Int32) → Int32} {W_md_in : Int32 → Int32 → Int32 → Int32} {W_md_kindBy : Int32 → Int32} : zseg X zFT (zEx 185 (P_md_canBeginRow G_md_canBeginRow W_md_canBeginRow) (zEx 160 (P_md_wrongAt W_md_wrongAt F0_md_wrongAt) (zEx 158 (P_md_here G_md_here W_md_here) (zEx 143 (P_md_in W_md_in) (zEx 184 (P_md_kindBy W_md_kindBy) zE0))))) zc_186 (fun p => Nat.beq p 27 || Nat.beq p 129) 400 27 [.ref 64, .int x, .int l2, .int l3] [] ((zua ar 84 b84), (zuf fi 64 7 c64_7), (m1, m2, m3, m4, m5)) = (
  bif decide (l3 = 0) then
   some (.inr (some (.int 1), ((zua ar 84 b84), (zuf fi 64 7 c64_7), (m1, m2, m3, m4, m5))))
  else
   zg (G_md_here (fi 64 8) c64_7 (ar 70)) (
   zl (W_md_here (fi 64 8) c64_7 (ar 70)) (fun v4 =>
   zl (W_md_in v4 50 57) (fun v5 =>
   bif decide (v5 = 0) then
    zg (G_md_here (fi 64 8) c64_7 (ar 70)) (
    zl (W_md_here (fi 64 8) c64_7 (ar 70)) (fun v6 =>
    zl (W_md_kindBy v6) (fun v7 =>
    bif !decide (v7 = (-1)) then
     bif decide (l2 + 1 ≤ 12) then
      some (.inl (129, [.ref 64, .int x, .int l2, .int l3, .int c64_7, .int 1, .int v7, .int 0], [], ((zua ar 84 b84), (zuf (zuf fi 64 7 c64_7) 64 7 (c64_7 + 1)), (m1, m2, m3, m4, m5))))
     else
      zl (W_md_wrongAt 6 c64_7) (fun v8 =>
      zl (F0_md_wrongAt 6 c64_7) (fun v9 =>
      zg (decide (v8 = 0) || decide (v8 = 1)) (
      some (.inr (some (.int v8), ((zua ar 84 b84), (zuf (zuf fi 64 7 c64_7) 64 9 v9), (m1, m2, m3, m4, m5)))))))
    else
     zl (W_md_wrongAt 1 c64_7) (fun v10 =>
     zl (F0_md_wrongAt 1 c64_7) (fun v11 =>
     zg (decide (v10 = 0) || decide (v10 = 1)) (
     some (.inr (some (.int v10), ((zua ar 84 b84), (zuf (zuf fi 64 7 c64_7) 64 9 v11), (m1, m2, m3, m4, m5))))))))))
   else
    zg (G_md_here (fi 64 8) c64_7 (ar 70)) (
    zl (W_md_here (fi 64 8) c64_7 (ar 70)) (fun v12 =>
    zg (G_md_here (fi 64 8) (c64_7 + 1) (ar 70)) (
    zl (W_md_here (fi 64 8) (c64_7 + 1) (ar 70)) (fun v13 =>
    zl (W_md_kindBy v13) (fun v14 =>
    bif !decide (v14 = (-1)) then
     bif decide (l2 + (v12 - 48) ≤ 12) then
      some (.inl (129, [.ref 64, .int x, .int l2, .int l3, .int c64_7, .int (v12 - 48), .int v14, .int 0], [], ((zua ar 84 b84), (zuf (zuf (zuf fi 64 7 c64_7) 64 7 (c64_7 + 1)) 64 7 ((c64_7 + 1) + 1)), (m1, m2, m3, m4, m5))))
     else
      zl (W_md_wrongAt 6 c64_7) (fun v15 =>
      zl (F0_md_wrongAt 6 c64_7) (fun v16 =>
      zg (decide (v15 = 0) || decide (v15 = 1)) (
      some (.inr (some (.int v15), ((zua ar 84 b84), (zuf (zuf (zuf fi 64 7 c64_7) 64 7 (c64_7 + 1)) 64 9 v16), (m1, m2, m3, m4, m5)))))))
    else
     zl (W_md_wrongAt 1 (c64_7 + 1)) (fun v17 =>
     zl (F0_md_wrongAt 1 (c64_7 + 1)) (fun v18 =>
     zg (decide (v17 = 0) || decide (v17 = 1)) (
     some (.inr (some (.int v17), ((zua ar 84 b84), (zuf (zuf (zuf fi 64 7 c64_7) 64 7 (c64_7 + 1)) 64 9 v18), (m1, m2, m3, m4, m5))))))))))))))) : Option ((Nat × List Value × List Value × zH2) ⊕ zO2)) := rfl
theorem k_md_readsRow_27 {X : Nat × (Nat → Int32)} {ar fi : Nat → Nat → Int32} {m1 m2 m3 m4 m5 : Nat} {x : Int32} {o : zO2} : ∀ (s : U_md_readsRow_27) (q : U_md_readsRow_27 ⊕ T_md_readsRow), f_md_readsRow_27 x (ar 70) (fi 64 8) (fi 64 9) s = some q → zq (M_md_readsRow_27 X (zEx 185 S_md_canBeginRow (zEx 160 S_md_wrongAt (zEx 158 S_md_here (zEx 143 S_md_in (zEx 184 S_md_kindBy zE0))))) ar fi m1 m2 m3 m4 m5 x o) (fun t => O_md_readsRow ar fi m1 m2 m3 m4 m5 t = o) q → M_md_readsRow_27 X (zEx 185 S_md_canBeginRow (zEx 160 S_md_wrongAt (zEx 158 S_md_here (zEx 143 S_md_in (zEx 184 S_md_kindBy zE0))))) ar fi m1 m2 m3 m4 m5 x o s := by
  intro s q h hq
  obtain ⟨l2, l3, b84, c64_7⟩ := s
  have h : b_md_readsRow_27 x (ar 70) (fi 64 8) (fi 64 9) l2 l3 b84 c64_7 = some q := h
  unfold b_md_readsRow_27 at h
  show zR2 X zFT (zEx 185 S_md_canBeginRow (zEx 160 S_md_wrongAt (zEx 158 S_md_here (zEx 143 S_md_in (zEx 184 S_md_kindBy zE0))))) zc_186 27 [.ref 64, .int x, .int l2, .int l3] [] ((zua ar 84 b84), (zuf fi 64 7 c64_7), (m1, m2, m3, m4, m5)) o
  refine zT_seg t27_md_readsRow ?_
  refine zb_el h (fun hb h => zT_t hb ?_) (fun hb h => zT_f hb ?_)
  · have hz := zsi h hq
    exact (zO_mk (by first | with_reducible rfl | (simp (disch := decide) only [zua_sort, zua_zua, zua_self, zuf_sort1, zuf_sort2, zuf_zuf, zuf_self])) (by first | with_reducible rfl | (simp (disch := decide) only [zua_sort, zua_zua, zua_self, zuf_sort1, zuf_sort2, zuf_zuf, zuf_self]))).trans hz
  · refine zg_el h (fun hg h => zT_g hg ?_)
    refine zl_el h (fun h => zT_l ?_)
    refine zl_el h (fun h => zT_l ?_)
    refine zb_el h (fun hb h => zT_t hb ?_) (fun hb h => zT_f hb ?_)
    · refine zg_el h (fun hg h => zT_g hg ?_)
      refine zl_el h (fun h => zT_l ?_)
      refine zl_el h (fun h => zT_l ?_)
      refine zb_el h (fun hb h => zT_t hb ?_) (fun hb h => zT_f hb ?_)
      · refine zb_el h (fun hb h => zT_t hb ?_) (fun hb h => zT_f hb ?_)
        · exact zR2_hp (by first | with_reducible rfl | (simp (disch := decide) only [zua_sort, zua_zua, zua_self, zuf_sort1, zuf_sort2, zuf_zuf, zuf_self])) (by first | with_reducible rfl | (simp (disch := decide) only [zua_sort, zua_zua, zua_self, zuf_sort1, zuf_sort2, zuf_zuf, zuf_self])) (zlp_K k_md_readsRow_129 h hq)
        · refine zl_el h (fun h => zT_l ?_)
          refine zl_el h (fun h => zT_l ?_)
          refine zg_el h (fun hg h => zT_g hg ?_)
          have hz := zsi h hq
          exact (zO_mk (by first | with_reducible rfl | (simp (disch := decide) only [zua_sort, zua_zua, zua_self, zuf_sort1, zuf_sort2, zuf_zuf, zuf_self])) (by first | with_reducible rfl | (simp (disch := decide) only [zua_sort, zua_zua, zua_self, zuf_sort1, zuf_sort2, zuf_zuf, zuf_self]))).trans hz
      · refine zl_el h (fun h => zT_l ?_)
        refine zl_el h (fun h => zT_l ?_)
        refine zg_el h (fun hg h => zT_g hg ?_)
        have hz := zsi h hq
        exact (zO_mk (by first | with_reducible rfl | (simp (disch := decide) only [zua_sort, zua_zua, zua_self, zuf_sort1, zuf_sort2, zuf_zuf, zuf_self])) (by first | with_reducible rfl | (simp (disch := decide) only [zua_sort, zua_zua, zua_self, zuf_sort1, zuf_sort2, zuf_zuf, zuf_self]))).trans hz
    · refine zg_el h (fun hg h => zT_g hg ?_)
      refine zl_el h (fun h => zT_l ?_)
      refine zg_el h (fun hg h => zT_g hg ?_)
      refine zl_el h (fun h => zT_l ?_)
      refine zl_el h (fun h => zT_l ?_)
      refine zb_el h (fun hb h => zT_t hb ?_) (fun hb h => zT_f hb ?_)
      · refine zb_el h (fun hb h => zT_t hb ?_) (fun hb h => zT_f hb ?_)
        · exact zR2_hp (by first | with_reducible rfl | (simp (disch := decide) only [zua_sort, zua_zua, zua_self, zuf_sort1, zuf_sort2, zuf_zuf, zuf_self])) (by first | with_reducible rfl | (simp (disch := decide) only [zua_sort, zua_zua, zua_self, zuf_sort1, zuf_sort2, zuf_zuf, zuf_self])) (zlp_K k_md_readsRow_129 h hq)
        · refine zl_el h (fun h => zT_l ?_)
          refine zl_el h (fun h => zT_l ?_)
          refine zg_el h (fun hg h => zT_g hg ?_)
          have hz := zsi h hq
          exact (zO_mk (by first | with_reducible rfl | (simp (disch := decide) only [zua_sort, zua_zua, zua_self, zuf_sort1, zuf_sort2, zuf_zuf, zuf_self])) (by first | with_reducible rfl | (simp (disch := decide) only [zua_sort, zua_zua, zua_self, zuf_sort1, zuf_sort2, zuf_zuf, zuf_self]))).trans hz
      · refine zl_el h (fun h => zT_l ?_)
        refine zl_el h (fun h => zT_l ?_)
        refine zg_el h (fun hg h => zT_g hg ?_)
        have hz := zsi h hq
        exact (zO_mk (by first | with_reducible rfl | (simp (disch := decide) only [zua_sort, zua_zua, zua_self, zuf_sort1, zuf_sort2, zuf_zuf, zuf_self])) (by first | with_reducible rfl | (simp (disch := decide) only [zua_sort, zua_zua, zua_self, zuf_sort1, zuf_sort2, zuf_zuf, zuf_self]))).trans hz
set_option maxRecDepth 20000 in
theorem t_md_readsRow {X : Nat × (Nat → Int32)} {ar fi : Nat → Nat → Int32} {m1 m2 m3 m4 m5 : Nat} {x : Int32} {G_md_canBeginRow : Int32 → Int32 → (Nat → Int32) → Bool} {W_md_canBeginRow : Int32 → Int32 → (Nat → Int32) → Int32} {W_md_wrongAt : Int32 → Int32 → Int32} {F0_md_wrongAt : Int32 → Int32 → Int32} {G_md_here : Int32 → Int32 → (Nat → Int32) → Bool} {W_md_here : Int32 → Int32 → (Nat → Int32) → Int32} {W_md_in : Int32 → Int32 → Int32 → Int32} {W_md_kindBy : Int32 → Int32} : zseg X zFT (zEx 185 (P_md_canBeginRow G_md_canBeginRow W_md_canBeginRow) (zEx 160 (P_md_wrongAt W_md_wrongAt F0_md_wrongAt) (zEx 158 (P_md_here G_md_here W_md_here) (zEx 143 (P_md_in W_md_in) (zEx 184 (P_md_kindBy W_md_kindBy) zE0))))) zc_186 (fun p => Nat.beq p 27 || Nat.beq p 129) 400 0 [.ref 64, .int x] [] (ar, fi, (m1, m2, m3, m4, m5)) = (
  bif !decide (x = 8) then
   some (.inl (27, [.ref 64, .int x, .int 0, .int 1], [], (ar, fi, (m1, m2, m3, m4, m5))))
  else
   zg (G_md_canBeginRow (fi 64 8) (fi 64 7) (ar 70)) (
   zl (W_md_canBeginRow (fi 64 8) (fi 64 7) (ar 70)) (fun v1 =>
   bif decide (v1 = 0) then
    some (.inl (27, [.ref 64, .int x, .int 0, .int 1], [], (ar, fi, (m1, m2, m3, m4, m5))))
   else
    zl (W_md_wrongAt 4 (fi 64 7)) (fun v2 =>
    zl (F0_md_wrongAt 4 (fi 64 7)) (fun v3 =>
    zg (decide (v2 = 0) || decide (v2 = 1)) (
    some (.inr (some (.int v2), (ar, (zuf fi 64 9 v3), (m1, m2, m3, m4, m5))))))))) : Option ((Nat × List Value × List Value × zH2) ⊕ zO2)) := rfl
theorem e_md_readsRow {X : Nat × (Nat → Int32)} {ar fi : Nat → Nat → Int32} {m1 m2 m3 m4 m5 : Nat} {x : Int32} {o : zO2} : ∀ (q : T_md_readsRow), q_md_readsRow x (ar 70) (ar 84) (fi 64 7) (fi 64 8) (fi 64 9) = some q → (fun t => O_md_readsRow ar fi m1 m2 m3 m4 m5 t = o) q → zR2 X zFT (zEx 185 S_md_canBeginRow (zEx 160 S_md_wrongAt (zEx 158 S_md_here (zEx 143 S_md_in (zEx 184 S_md_kindBy zE0))))) zc_186 0 [.ref 64, .int x] [] (ar, fi, (m1, m2, m3, m4, m5)) o := by
  intro q h hq
  unfold q_md_readsRow at h
  refine zT_seg t_md_readsRow ?_
  refine zb_el h (fun hb h => zT_t hb ?_) (fun hb h => zT_f hb ?_)
  · exact zR2_hp (by first | with_reducible rfl | (simp (disch := decide) only [zua_sort, zua_zua, zua_self, zuf_sort1, zuf_sort2, zuf_zuf, zuf_self])) (by first | with_reducible rfl | (simp (disch := decide) only [zua_sort, zua_zua, zua_self, zuf_sort1, zuf_sort2, zuf_zuf, zuf_self])) (zlp_K k_md_readsRow_27 h hq)
  · refine zg_el h (fun hg h => zT_g hg ?_)
    refine zl_el h (fun h => zT_l ?_)
    refine zb_el h (fun hb h => zT_t hb ?_) (fun hb h => zT_f hb ?_)
    · exact zR2_hp (by first | with_reducible rfl | (simp (disch := decide) only [zua_sort, zua_zua, zua_self, zuf_sort1, zuf_sort2, zuf_zuf, zuf_self])) (by first | with_reducible rfl | (simp (disch := decide) only [zua_sort, zua_zua, zua_self, zuf_sort1, zuf_sort2, zuf_zuf, zuf_self])) (zlp_K k_md_readsRow_27 h hq)
    · refine zl_el h (fun h => zT_l ?_)
      refine zl_el h (fun h => zT_l ?_)
      refine zg_el h (fun hg h => zT_g hg ?_)
      have hz := zsi h hq
      exact (zO_mk (by first | with_reducible rfl | (simp (disch := decide) only [zua_sort, zua_zua, zua_self, zuf_sort1, zuf_sort2, zuf_zuf, zuf_self])) (by first | with_reducible rfl | (simp (disch := decide) only [zua_sort, zua_zua, zua_self, zuf_sort1, zuf_sort2, zuf_zuf, zuf_self]))).trans hz
theorem ok_md_readsRow (X : Nat × (Nat → Int32)) : zOkS X 186 S_md_readsRow 3 := zOkS_new (zOkE_cons (ok_md_canBeginRow X) (by decide) (zOkE_cons (ok_md_wrongAt X) (by decide) (zOkE_cons (ok_md_here X) (by decide) (zOkE_cons (ok_md_in X) (by decide) (zOkE_cons (ok_md_kindBy X) (by decide) (zOkE_nil X 2)))))) (by
  intro args g o h
  obtain ⟨ar, fi, m1, m2, m3, m4, m5⟩ := g
  unfold S_md_readsRow P_md_readsRow at h
  split at h
  · refine zb_el h (fun hI0 k0 => ?_) (fun _ h10 => ?_)
    · try simp only [Bool.and_eq_true] at hI0
      have j0 := hI0
      have e0 := Nat.eq_of_beq_eq_true j0
      subst e0
      exact zpe_el k0 (fun t ht ho => e_md_readsRow t ht ho)
    · cases h10
  · cases h)
