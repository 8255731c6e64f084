abbrev T_md_goesAlong : Type := (Nat → Int32) × (Nat → Int32) × (Nat → Int32)
abbrev U_md_goesAlong_52 : Type := Int32 × (Nat → Int32) × (Nat → Int32)
abbrev U_md_goesAlong_151 : Type := Int32 × (Nat → Int32) × (Nat → Int32)
abbrev U_md_goesAlong_7 : Type := Int32 × Int32 × (Nat → Int32)
def b_md_goesAlong_151 (x : Int32) (y : Int32) (b91 : Nat → Int32) (l5 : Int32) (b88 : Nat → Int32) (b89 : Nat → Int32) : Option (U_md_goesAlong_151 ⊕ T_md_goesAlong) :=
  bif decide (l5 ≤ 0) then
   some (.inr (b88, b89, b91))
  else
   zg (zin l5 192) (
   zg (zin (l5 - 1) 192) (
   bif decide ((b91 (l5.toNatClampNeg)) - (b91 (l5.toNatClampNeg)) / 2 * 2 = 0) then
    some (.inl (l5 + (-1), b88, b89))
   else
    bif decide ((b91 ((l5 - 1).toNatClampNeg)) - (b91 ((l5 - 1).toNatClampNeg)) / 2 * 2 = 1) then
     some (.inl (l5 + (-1), b88, b89))
    else
     bif !decide ((b91 (l5.toNatClampNeg)) / 2 = (b91 ((l5 - 1).toNatClampNeg)) / 2) then
      bif decide ((b91 (l5.toNatClampNeg)) / 2 = x) then
       bif decide ((b91 ((l5 - 1).toNatClampNeg)) / 2 = y) then
        some (.inl (l5 + (-1), b88, b89))
       else
        zg (zin ((b91 ((l5 - 1).toNatClampNeg)) / 2) 96) (
        some (.inl (l5 + (-1), b88, (zup b89 (((b91 ((l5 - 1).toNatClampNeg)) / 2).toNatClampNeg) ((b91 (l5.toNatClampNeg)) / 2)))))
      else
       zg (zin ((b91 (l5.toNatClampNeg)) / 2) 96) (
       bif decide ((b91 ((l5 - 1).toNatClampNeg)) / 2 = y) then
        some (.inl (l5 + (-1), (zup b88 (((b91 (l5.toNatClampNeg)) / 2).toNatClampNeg) ((b91 ((l5 - 1).toNatClampNeg)) / 2)), b89))
       else
        zg (zin ((b91 ((l5 - 1).toNatClampNeg)) / 2) 96) (
        some (.inl (l5 + (-1), (zup b88 (((b91 (l5.toNatClampNeg)) / 2).toNatClampNeg) ((b91 ((l5 - 1).toNatClampNeg)) / 2)), (zup b89 (((b91 ((l5 - 1).toNatClampNeg)) / 2).toNatClampNeg) ((b91 (l5.toNatClampNeg)) / 2))))))
     else
      some (.inl (l5 + (-1), b88, b89))))
def f_md_goesAlong_151 (x : Int32) (y : Int32) (b91 : Nat → Int32) : U_md_goesAlong_151 → Option (U_md_goesAlong_151 ⊕ T_md_goesAlong) := fun s => b_md_goesAlong_151 x y b91 s.1 s.2.1 s.2.2
noncomputable def l_md_goesAlong_151 (x : Int32) (y : Int32) (b91 : Nat → Int32) (l5 : Int32) (b88 : Nat → Int32) (b89 : Nat → Int32) : Option T_md_goesAlong := zlp (f_md_goesAlong_151 x y b91) (l5, b88, b89)
noncomputable def b_md_goesAlong_52 (x : Int32) (y : Int32) (l3 : Int32) (b91 : Nat → Int32) (l5 : Int32) (b88 : Nat → Int32) (b89 : Nat → Int32) : Option (U_md_goesAlong_52 ⊕ T_md_goesAlong) :=
  bif decide (l5 ≤ 0) then
   zbd (l_md_goesAlong_151 x y b91 l3 b88 b89) (fun k => some (.inr k))
  else
   zg (zin l5 192) (
   zg (zin (l5 - 1) 192) (
   bif decide ((b91 (l5.toNatClampNeg)) - (b91 (l5.toNatClampNeg)) / 2 * 2 = 1) then
    some (.inl (l5 + (-1), b88, b89))
   else
    bif decide ((b91 ((l5 - 1).toNatClampNeg)) - (b91 ((l5 - 1).toNatClampNeg)) / 2 * 2 = 0) then
     some (.inl (l5 + (-1), b88, b89))
    else
     bif !decide ((b91 (l5.toNatClampNeg)) / 2 = (b91 ((l5 - 1).toNatClampNeg)) / 2) then
      zg (zin ((b91 ((l5 - 1).toNatClampNeg)) / 2) 96) (
      bif !decide (b88 (((b91 ((l5 - 1).toNatClampNeg)) / 2).toNatClampNeg) = (b91 (l5.toNatClampNeg)) / 2) then
       zg (zin ((b91 (l5.toNatClampNeg)) / 2) 96) (
       some (.inl (l5 + (-1), b88, (zup b89 (((b91 (l5.toNatClampNeg)) / 2).toNatClampNeg) (-1)))))
      else
       zg (zin ((b91 ((l5 - 1).toNatClampNeg)) / 2) 96) (
       zg (zin ((b91 (l5.toNatClampNeg)) / 2) 96) (
       some (.inl (l5 + (-1), (zup b88 (((b91 ((l5 - 1).toNatClampNeg)) / 2).toNatClampNeg) (-1)), (zup b89 (((b91 (l5.toNatClampNeg)) / 2).toNatClampNeg) (-1)))))))
     else
      some (.inl (l5 + (-1), b88, b89))))
noncomputable def f_md_goesAlong_52 (x : Int32) (y : Int32) (l3 : Int32) (b91 : Nat → Int32) : U_md_goesAlong_52 → Option (U_md_goesAlong_52 ⊕ T_md_goesAlong) := fun s => b_md_goesAlong_52 x y l3 b91 s.1 s.2.1 s.2.2
noncomputable def l_md_goesAlong_52 (x : Int32) (y : Int32) (l3 : Int32) (b91 : Nat → Int32) (l5 : Int32) (b88 : Nat → Int32) (b89 : Nat → Int32) : Option T_md_goesAlong := zlp (f_md_goesAlong_52 x y l3 b91) (l5, b88, b89)
noncomputable def b_md_goesAlong_7 (x : Int32) (y : Int32) (a90 : Nat → Int32) (b88 : Nat → Int32) (b89 : Nat → Int32) (l3 : Int32) (l4 : Int32) (b91 : Nat → Int32) : Option (U_md_goesAlong_7 ⊕ T_md_goesAlong) :=
  bif decide (l4 = (2 * x) + 1) then
   zg (zin l3 192) (
   zbd (l_md_goesAlong_52 x y l3 (zup b91 (l3.toNatClampNeg) l4) l3 b88 b89) (fun k => some (.inr k)))
  else
   zg (zin l3 192) (
   zg (zin l4 192) (
   some (.inl (l3 + 1, a90 (l4.toNatClampNeg), (zup b91 (l3.toNatClampNeg) l4)))))
noncomputable def f_md_goesAlong_7 (x : Int32) (y : Int32) (a90 : Nat → Int32) (b88 : Nat → Int32) (b89 : Nat → Int32) : U_md_goesAlong_7 → Option (U_md_goesAlong_7 ⊕ T_md_goesAlong) := fun s => b_md_goesAlong_7 x y a90 b88 b89 s.1 s.2.1 s.2.2
noncomputable def l_md_goesAlong_7 (x : Int32) (y : Int32) (a90 : Nat → Int32) (b88 : Nat → Int32) (b89 : Nat → Int32) (l3 : Int32) (l4 : Int32) (b91 : Nat → Int32) : Option T_md_goesAlong := zlp (f_md_goesAlong_7 x y a90 b88 b89) (l3, l4, b91)
noncomputable def q_md_goesAlong (x : Int32) (y : Int32) (a88 : Nat → Int32) (a89 : Nat → Int32) (a90 : Nat → Int32) (a91 : Nat → Int32) : Option T_md_goesAlong :=
  l_md_goesAlong_7 x y a90 a88 a89 0 (2 * y) a91
def P_md_goesAlong (Q : Int32 → Int32 → (Nat → Int32) → (Nat → Int32) → (Nat → Int32) → (Nat → Int32) → Option ((Nat → Int32) × (Nat → Int32) × (Nat → Int32))) : zSp := fun as g => match as with
  | [.ref a, .int x, .int y] => bif Nat.beq a 64 then zpe (Q x y (g.1 88) (g.1 89) (g.1 90) (g.1 91)) (fun t => (none, ((zua (zua (zua g.1 88 t.1) 89 t.2.1) 91 t.2.2), g.2.1, g.2.2))) else none
  | _ => none
noncomputable abbrev S_md_goesAlong : zSp := P_md_goesAlong q_md_goesAlong
theorem hA5_md_goesAlong (F : Nat → Nat → Int32) : F = (zua (zua (zua F 88 (F 88)) 89 (F 89)) 91 (F 91)) := zuak_ix F [] [(88, none), (89, none), (91, none)] rfl
theorem hA4_md_goesAlong (F : Nat → Nat → Int32) (w0 w1 w2 w3 : Nat → Int32) : (zua (zua (zua (zua F 88 w0) 89 w1) 91 w2) 91 w3) = (zua (zua (zua F 88 w0) 89 w1) 91 w3) := zuak_ix F [(88, w0), (89, w1), (91, w2), (91, w3)] [(88, some 0), (89, some 1), (91, some 3)] rfl
theorem hA3_md_goesAlong (F : Nat → Nat → Int32) (w0 w1 w2 w3 w4 : Nat → Int32) : (zua (zua (zua (zua (zua F 88 w0) 89 w1) 91 w2) 88 w3) 89 w4) = (zua (zua (zua F 88 w3) 89 w4) 91 w2) := zuak_ix F [(88, w0), (89, w1), (91, w2), (88, w3), (89, w4)] [(88, some 3), (89, some 4), (91, some 2)] rfl
theorem hA2_md_goesAlong (F : Nat → Nat → Int32) (w0 w1 w2 w3 : Nat → Int32) : (zua (zua (zua (zua F 88 w0) 89 w1) 91 w2) 88 w3) = (zua (zua (zua F 88 w3) 89 w1) 91 w2) := zuak_ix F [(88, w0), (89, w1), (91, w2), (88, w3)] [(88, some 3), (89, some 1), (91, some 2)] rfl
theorem hA1_md_goesAlong (F : Nat → Nat → Int32) (w0 w1 w2 w3 : Nat → Int32) : (zua (zua (zua (zua F 88 w0) 89 w1) 91 w2) 89 w3) = (zua (zua (zua F 88 w0) 89 w3) 91 w2) := zuak_ix F [(88, w0), (89, w1), (91, w2), (89, w3)] [(88, some 0), (89, some 3), (91, some 2)] rfl
theorem hA0_md_goesAlong (F : Nat → Nat → Int32) (w0 w1 w2 : Nat → Int32) : (zua (zua (zua F 88 w0) 89 w1) 91 w2) = (zua (zua (zua F 88 w0) 89 w1) 91 w2) := zuak_ix F [(88, w0), (89, w1), (91, w2)] [(88, some 0), (89, some 1), (91, some 2)] rfl
def O_md_goesAlong (ar fi : Nat → Nat → Int32) (m1 : Nat) (m2 : Nat) (m3 : Nat) (m4 : Nat) (m5 : Nat) (t : T_md_goesAlong) : zO2 := match t with
  | (t0, t1, t2) => (none, ((zua (zua (zua ar 88 t0) 89 t1) 91 t2), fi, (m1, m2, m3, m4, m5)))
def M_md_goesAlong_151 (X : Nat × (Nat → Int32)) (E : zTE) (ar fi : Nat → Nat → Int32) (m1 : Nat) (m2 : Nat) (m3 : Nat) (m4 : Nat) (m5 : Nat) (x : Int32) (y : Int32) (l3 : Int32) (l4 : Int32) (b91 : Nat → Int32) (o : zO2) (s : U_md_goesAlong_151) : Prop := match s with
  | (l5, b88, b89) => zR2 X zFT E zc_227 151 [.ref 64, .int x, .int y, .int l3, .int l4, .int l5] [] ((zua (zua (zua ar 88 b88) 89 b89) 91 b91), fi, (m1, m2, m3, m4, m5)) o
def M_md_goesAlong_52 (X : Nat × (Nat → Int32)) (E : zTE) (ar fi : Nat → Nat → Int32) (m1 : Nat) (m2 : Nat) (m3 : Nat) (m4 : Nat) (m5 : Nat) (x : Int32) (y : Int32) (l3 : Int32) (l4 : Int32) (b91 : Nat → Int32) (o : zO2) (s : U_md_goesAlong_52) : Prop := match s with
  | (l5, b88, b89) => zR2 X zFT E zc_227 52 [.ref 64, .int x, .int y, .int l3, .int l4, .int l5] [] ((zua (zua (zua ar 88 b88) 89 b89) 91 b91), fi, (m1, m2, m3, m4, m5)) o
def M_md_goesAlong_7 (X : Nat × (Nat → Int32)) (E : zTE) (ar fi : Nat → Nat → Int32) (m1 : Nat) (m2 : Nat) (m3 : Nat) (m4 : Nat) (m5 : Nat) (x : Int32) (y : Int32) (b88 : Nat → Int32) (b89 : Nat → Int32) (o : zO2) (s : U_md_goesAlong_7) : Prop := match s with
  | (l3, l4, b91) => zR2 X zFT E zc_227 7 [.ref 64, .int x, .int y, .int l3, .int l4] [] ((zua (zua (zua ar 88 b88) 89 b89) 91 b91), fi, (m1, m2, m3, m4, m5)) o
set_option maxRecDepth 1000000 in
theorem t151_md_goesAlong {X : Nat × (Nat → Int32)} {ar fi : Nat → Nat → Int32} {m1 m2 m3 m4 m5 : Nat} {x y : Int32} {l3 : Int32} {l4 : Int32} {l5 : Int32} {b88 : Nat → Int32} {b89 : Nat → Int32} {b91 : Nat → Int32} : zseg X zFT zE0 zc_227 (fun p => Nat.beq p 52 || Nat.beq p 151 || Nat.beq p 7) 400 151 [.ref 64, .int x, .int y, .int l3, .int l4, .int l5] [] ((zua (zua (zua ar 88 b88) 89 b89) 91 b91), fi, (m1, m2, m3, m4, m5)) = (
  bif decide (l5 ≤ 0) then
   some (.inr (none, ((zua (zua (zua ar 88 b88) 89 b89) 91 b91), fi, (m1, m2, m3, m4, m5))))
  else
   zg (Nat.beq 16 16 && (zin l5 192)) (
   zg (Nat.beq 16 16 && (zin (l5 - 1) 192)) (
   zg (!decide ((2 : Int32) = 0)) (
   bif decide ((b91 (l5.toNatClampNeg)) - (b91 (l5.toNatClampNeg)) / 2 * 2 = 0) then
    some (.inl (151, [.ref 64, .int x, .int y, .int l3, .int l4, .int (l5 + (-1))], [], ((zua (zua (zua ar 88 b88) 89 b89) 91 b91), fi, (m1, m2, m3, m4, m5))))
   else
    zg (!decide ((2 : Int32) = 0)) (
    bif decide ((b91 ((l5 - 1).toNatClampNeg)) - (b91 ((l5 - 1).toNatClampNeg)) / 2 * 2 = 1) then
     some (.inl (151, [.ref 64, .int x, .int y, .int l3, .int l4, .int (l5 + (-1))], [], ((zua (zua (zua ar 88 b88) 89 b89) 91 b91), fi, (m1, m2, m3, m4, m5))))
    else
     zg (!decide ((2 : Int32) = 0)) (
     zg (!decide ((2 : Int32) = 0)) (
     bif !decide ((b91 (l5.toNatClampNeg)) / 2 = (b91 ((l5 - 1).toNatClampNeg)) / 2) then
      zg (!decide ((2 : Int32) = 0)) (
      bif decide ((b91 (l5.toNatClampNeg)) / 2 = x) then
       zg (!decide ((2 : Int32) = 0)) (
       bif decide ((b91 ((l5 - 1).toNatClampNeg)) / 2 = y) then
        some (.inl (151, [.ref 64, .int x, .int y, .int l3, .int l4, .int (l5 + (-1))], [], ((zua (zua (zua ar 88 b88) 89 b89) 91 b91), fi, (m1, m2, m3, m4, m5))))
       else
        zg (!decide ((2 : Int32) = 0)) (
        zg (!decide ((2 : Int32) = 0)) (
        zg (Nat.beq 16 16 && (zin ((b91 ((l5 - 1).toNatClampNeg)) / 2) 96)) (
        some (.inl (151, [.ref 64, .int x, .int y, .int l3, .int l4, .int (l5 + (-1))], [], ((zua (zua (zua (zua ar 88 b88) 89 b89) 91 b91) 89 (zup b89 (((b91 ((l5 - 1).toNatClampNeg)) / 2).toNatClampNeg) ((b91 (l5.toNatClampNeg)) / 2))), fi, (m1, m2, m3, m4, m5))))))))
      else
       zg (!decide ((2 : Int32) = 0)) (
       zg (!decide ((2 : Int32) = 0)) (
       zg (Nat.beq 16 16 && (zin ((b91 (l5.toNatClampNeg)) / 2) 96)) (
       zg (!decide ((2 : Int32) = 0)) (
       bif decide ((b91 ((l5 - 1).toNatClampNeg)) / 2 = y) then
        some (.inl (151, [.ref 64, .int x, .int y, .int l3, .int l4, .int (l5 + (-1))], [], ((zua (zua (zua (zua ar 88 b88) 89 b89) 91 b91) 88 (zup b88 (((b91 (l5.toNatClampNeg)) / 2).toNatClampNeg) ((b91 ((l5 - 1).toNatClampNeg)) / 2))), fi, (m1, m2, m3, m4, m5))))
       else
        zg (!decide ((2 : Int32) = 0)) (
        zg (!decide ((2 : Int32) = 0)) (
        zg (Nat.beq 16 16 && (zin ((b91 ((l5 - 1).toNatClampNeg)) / 2) 96)) (
        some (.inl (151, [.ref 64, .int x, .int y, .int l3, .int l4, .int (l5 + (-1))], [], ((zua (zua (zua (zua (zua ar 88 b88) 89 b89) 91 b91) 88 (zup b88 (((b91 (l5.toNatClampNeg)) / 2).toNatClampNeg) ((b91 ((l5 - 1).toNatClampNeg)) / 2))) 89 (zup b89 (((b91 ((l5 - 1).toNatClampNeg)) / 2).toNatClampNeg) ((b91 (l5.toNatClampNeg)) / 2))), fi, (m1, m2, m3, m4, m5))))))))))))
     else
      some (.inl (151, [.ref 64, .int x, .int y, .int l3, .int l4, .int (l5 + (-1))], [], ((zua (zua (zua ar 88 b88) 89 b89) 91 b91), fi, (m1, m2, m3, m4, m5)))))))))) : Option ((Nat × List Value × List Value × zH2) ⊕ zO2)) := rfl
set_option maxRecDepth 20000 in
theorem k_md_goesAlong_151 {X : Nat × (Nat → Int32)} {ar fi : Nat → Nat → Int32} {m1 m2 m3 m4 m5 : Nat} {x y : Int32} {l3 : Int32} {l4 : Int32} {b91 : Nat → Int32} {o : zO2} : ∀ (s : U_md_goesAlong_151) (q : U_md_goesAlong_151 ⊕ T_md_goesAlong), f_md_goesAlong_151 x y b91 s = some q → zq (M_md_goesAlong_151 X zE0 ar fi m1 m2 m3 m4 m5 x y l3 l4 b91 o) (fun t => O_md_goesAlong ar fi m1 m2 m3 m4 m5 t = o) q → M_md_goesAlong_151 X zE0 ar fi m1 m2 m3 m4 m5 x y l3 l4 b91 o s := by
  intro s q h hq
  obtain ⟨l5, b88, b89⟩ := s
  have h : b_md_goesAlong_151 x y b91 l5 b88 b89 = some q := h
  unfold b_md_goesAlong_151 at h
  show zR2 X zFT zE0 zc_227 151 [.ref 64, .int x, .int y, .int l3, .int l4, .int l5] [] ((zua (zua (zua ar 88 b88) 89 b89) 91 b91), fi, (m1, m2, m3, m4, m5)) o
  refine zT_seg t151_md_goesAlong ?_
  obtain ⟨TT, hTT⟩ : ∃ T, T = zT X zFT zE0 zc_227 o := ⟨_, rfl⟩
  rw [← hTT]
  refine zb_el h (fun hb h => zU_t hTT hb ?_) (fun hb h => zU_f hTT hb ?_)
  · rw [hTT]
    have hz := zsi h hq
    refine (zO_mk ?_ ?_).trans hz
    · first | with_reducible rfl | exact hA0_md_goesAlong _ _ _ _
    · first | with_reducible rfl | rfl
  · refine zg_el h (fun hg h => zU_ga hTT hg ?_)
    refine zg_el h (fun hg h => zU_ga hTT hg ?_)
    refine zU_g hTT rfl ?_
    refine zb_el h (fun hb h => zU_t hTT hb ?_) (fun hb h => zU_f hTT hb ?_)
    · rw [hTT]
      have hz := zsi h hq
      refine zR2_hp ?_ ?_ hz
      · first | with_reducible rfl | exact hA0_md_goesAlong _ _ _ _
      · first | with_reducible rfl | rfl
    · refine zU_g hTT rfl ?_
      refine zb_el h (fun hb h => zU_t hTT hb ?_) (fun hb h => zU_f hTT hb ?_)
      · rw [hTT]
        have hz := zsi h hq
        refine zR2_hp ?_ ?_ hz
        · first | with_reducible rfl | exact hA0_md_goesAlong _ _ _ _
        · first | with_reducible rfl | rfl
      · refine zU_g hTT rfl ?_
        refine zU_g hTT rfl ?_
        refine zb_el h (fun hb h => zU_t hTT hb ?_) (fun hb h => zU_f hTT hb ?_)
        · refine zU_g hTT rfl ?_
          refine zb_el h (fun hb h => zU_t hTT hb ?_) (fun hb h => zU_f hTT hb ?_)
          · refine zU_g hTT rfl ?_
            refine zb_el h (fun hb h => zU_t hTT hb ?_) (fun hb h => zU_f hTT hb ?_)
            · rw [hTT]
              have hz := zsi h hq
              refine zR2_hp ?_ ?_ hz
              · first | with_reducible rfl | exact hA0_md_goesAlong _ _ _ _
              · first | with_reducible rfl | rfl
            · refine zU_g hTT rfl ?_
              refine zU_g hTT rfl ?_
              refine zg_el h (fun hg h => zU_ga hTT hg ?_)
              rw [hTT]
              have hz := zsi h hq
              refine zR2_hp ?_ ?_ hz
              · first | with_reducible rfl | exact hA1_md_goesAlong _ _ _ _ _
              · first | with_reducible rfl | rfl
          · refine zU_g hTT rfl ?_
            refine zU_g hTT rfl ?_
            refine zg_el h (fun hg h => zU_ga hTT hg ?_)
            refine zU_g hTT rfl ?_
            refine zb_el h (fun hb h => zU_t hTT hb ?_) (fun hb h => zU_f hTT hb ?_)
            · rw [hTT]
              have hz := zsi h hq
              refine zR2_hp ?_ ?_ hz
              · first | with_reducible rfl | exact hA2_md_goesAlong _ _ _ _ _
              · first | with_reducible rfl | rfl
            · refine zU_g hTT rfl ?_
              refine zU_g hTT rfl ?_
              refine zg_el h (fun hg h => zU_ga hTT hg ?_)
              rw [hTT]
              have hz := zsi h hq
              refine zR2_hp ?_ ?_ hz
              · first | with_reducible rfl | exact hA3_md_goesAlong _ _ _ _ _ _
              · first | with_reducible rfl | rfl
        · rw [hTT]
          have hz := zsi h hq
          refine zR2_hp ?_ ?_ hz
          · first | with_reducible rfl | exact hA0_md_goesAlong _ _ _ _
          · first | with_reducible rfl | rfl
set_option maxRecDepth 1000000 in
theorem t52_md_goesAlong {X : Nat × (Nat → Int32)} {ar fi : Nat → Nat → Int32} {m1 m2 m3 m4 m5 : Nat} {x y : Int32} {l3 : Int32} {l4 : Int32} {l5 : Int32} {b88 : Nat → Int32} {b89 : Nat → Int32} {b91 : Nat → Int32} : zseg X zFT zE0 zc_227 (fun p => Nat.beq p 52 || Nat.beq p 151 || Nat.beq p 7) 400 52 [.ref 64, .int x, .int y, .int l3, .int l4, .int l5] [] ((zua (zua (zua ar 88 b88) 89 b89) 91 b91), fi, (m1, m2, m3, m4, m5)) = (
  bif decide (l5 ≤ 0) then
   some (.inl (151, [.ref 64, .int x, .int y, .int l3, .int l4, .int l3], [], ((zua (zua (zua ar 88 b88) 89 b89) 91 b91), fi, (m1, m2, m3, m4, m5))))
  else
   zg (Nat.beq 16 16 && (zin l5 192)) (
   zg (Nat.beq 16 16 && (zin (l5 - 1) 192)) (
   zg (!decide ((2 : Int32) = 0)) (
   bif decide ((b91 (l5.toNatClampNeg)) - (b91 (l5.toNatClampNeg)) / 2 * 2 = 1) then
    some (.inl (52, [.ref 64, .int x, .int y, .int l3, .int l4, .int (l5 + (-1))], [], ((zua (zua (zua ar 88 b88) 89 b89) 91 b91), fi, (m1, m2, m3, m4, m5))))
   else
    zg (!decide ((2 : Int32) = 0)) (
    bif decide ((b91 ((l5 - 1).toNatClampNeg)) - (b91 ((l5 - 1).toNatClampNeg)) / 2 * 2 = 0) then
     some (.inl (52, [.ref 64, .int x, .int y, .int l3, .int l4, .int (l5 + (-1))], [], ((zua (zua (zua ar 88 b88) 89 b89) 91 b91), fi, (m1, m2, m3, m4, m5))))
    else
     zg (!decide ((2 : Int32) = 0)) (
     zg (!decide ((2 : Int32) = 0)) (
     bif !decide ((b91 (l5.toNatClampNeg)) / 2 = (b91 ((l5 - 1).toNatClampNeg)) / 2) then
      zg (!decide ((2 : Int32) = 0)) (
      zg (Nat.beq 16 16 && (zin ((b91 ((l5 - 1).toNatClampNeg)) / 2) 96)) (
      zg (!decide ((2 : Int32) = 0)) (
      bif !decide (b88 (((b91 ((l5 - 1).toNatClampNeg)) / 2).toNatClampNeg) = (b91 (l5.toNatClampNeg)) / 2) then
       zg (!decide ((2 : Int32) = 0)) (
       zg (Nat.beq 16 16 && (zin ((b91 (l5.toNatClampNeg)) / 2) 96)) (
       some (.inl (52, [.ref 64, .int x, .int y, .int l3, .int l4, .int (l5 + (-1))], [], ((zua (zua (zua (zua ar 88 b88) 89 b89) 91 b91) 89 (zup b89 (((b91 (l5.toNatClampNeg)) / 2).toNatClampNeg) (-1))), fi, (m1, m2, m3, m4, m5))))))
      else
       zg (!decide ((2 : Int32) = 0)) (
       zg (Nat.beq 16 16 && (zin ((b91 ((l5 - 1).toNatClampNeg)) / 2) 96)) (
       zg (!decide ((2 : Int32) = 0)) (
       zg (Nat.beq 16 16 && (zin ((b91 (l5.toNatClampNeg)) / 2) 96)) (
       some (.inl (52, [.ref 64, .int x, .int y, .int l3, .int l4, .int (l5 + (-1))], [], ((zua (zua (zua (zua (zua ar 88 b88) 89 b89) 91 b91) 88 (zup b88 (((b91 ((l5 - 1).toNatClampNeg)) / 2).toNatClampNeg) (-1))) 89 (zup b89 (((b91 (l5.toNatClampNeg)) / 2).toNatClampNeg) (-1))), fi, (m1, m2, m3, m4, m5)))))))))))
     else
      some (.inl (52, [.ref 64, .int x, .int y, .int l3, .int l4, .int (l5 + (-1))], [], ((zua (zua (zua ar 88 b88) 89 b89) 91 b91), fi, (m1, m2, m3, m4, m5)))))))))) : Option ((Nat × List Value × List Value × zH2) ⊕ zO2)) := rfl
set_option maxRecDepth 20000 in
theorem k_md_goesAlong_52 {X : Nat × (Nat → Int32)} {ar fi : Nat → Nat → Int32} {m1 m2 m3 m4 m5 : Nat} {x y : Int32} {l3 : Int32} {l4 : Int32} {b91 : Nat → Int32} {o : zO2} : ∀ (s : U_md_goesAlong_52) (q : U_md_goesAlong_52 ⊕ T_md_goesAlong), f_md_goesAlong_52 x y l3 b91 s = some q → zq (M_md_goesAlong_52 X zE0 ar fi m1 m2 m3 m4 m5 x y l3 l4 b91 o) (fun t => O_md_goesAlong ar fi m1 m2 m3 m4 m5 t = o) q → M_md_goesAlong_52 X zE0 ar fi m1 m2 m3 m4 m5 x y l3 l4 b91 o s := by
  intro s q h hq
  obtain ⟨l5, b88, b89⟩ := s
  have h : b_md_goesAlong_52 x y l3 b91 l5 b88 b89 = some q := h
  unfold b_md_goesAlong_52 at h
  show zR2 X zFT zE0 zc_227 52 [.ref 64, .int x, .int y, .int l3, .int l4, .int l5] [] ((zua (zua (zua ar 88 b88) 89 b89) 91 b91), fi, (m1, m2, m3, m4, m5)) o
  refine zT_seg t52_md_goesAlong ?_
  obtain ⟨TT, hTT⟩ : ∃ T, T = zT X zFT zE0 zc_227 o := ⟨_, rfl⟩
  rw [← hTT]
  refine zb_el h (fun hb h => zU_t hTT hb ?_) (fun hb h => zU_f hTT hb ?_)
  · rw [hTT]
    refine zbd_el h (fun r hr h => ?_)
    have hz := zsi h hq
    refine zR2_hp ?_ ?_ (zlp_K k_md_goesAlong_151 hr hz)
    · first | with_reducible rfl | exact hA0_md_goesAlong _ _ _ _
    · first | with_reducible rfl | rfl
  · refine zg_el h (fun hg h => zU_ga hTT hg ?_)
    refine zg_el h (fun hg h => zU_ga hTT hg ?_)
    refine zU_g hTT rfl ?_
    refine zb_el h (fun hb h => zU_t hTT hb ?_) (fun hb h => zU_f hTT hb ?_)
    · rw [hTT]
      have hz := zsi h hq
      refine zR2_hp ?_ ?_ hz
      · first | with_reducible rfl | exact hA0_md_goesAlong _ _ _ _
      · first | with_reducible rfl | rfl
    · refine zU_g hTT rfl ?_
      refine zb_el h (fun hb h => zU_t hTT hb ?_) (fun hb h => zU_f hTT hb ?_)
      · rw [hTT]
        have hz := zsi h hq
        refine zR2_hp ?_ ?_ hz
        · first | with_reducible rfl | exact hA0_md_goesAlong _ _ _ _
        · first | with_reducible rfl | rfl
      · refine zU_g hTT rfl ?_
        refine zU_g hTT rfl ?_
        refine zb_el h (fun hb h => zU_t hTT hb ?_) (fun hb h => zU_f hTT hb ?_)
        · refine zU_g hTT rfl ?_
          refine zg_el h (fun hg h => zU_ga hTT hg ?_)
          refine zU_g hTT rfl ?_
          refine zb_el h (fun hb h => zU_t hTT hb ?_) (fun hb h => zU_f hTT hb ?_)
          · refine zU_g hTT rfl ?_
            refine zg_el h (fun hg h => zU_ga hTT hg ?_)
            rw [hTT]
            have hz := zsi h hq
            refine zR2_hp ?_ ?_ hz
            · first | with_reducible rfl | exact hA1_md_goesAlong _ _ _ _ _
            · first | with_reducible rfl | rfl
          · refine zU_g hTT rfl ?_
            refine zg_el h (fun hg h => zU_ga hTT hg ?_)
            refine zU_g hTT rfl ?_
            refine zg_el h (fun hg h => zU_ga hTT hg ?_)
            rw [hTT]
            have hz := zsi h hq
            refine zR2_hp ?_ ?_ hz
            · first | with_reducible rfl | exact hA3_md_goesAlong _ _ _ _ _ _
            · first | with_reducible rfl | rfl
        · rw [hTT]
          have hz := zsi h hq
          refine zR2_hp ?_ ?_ hz
          · first | with_reducible rfl | exact hA0_md_goesAlong _ _ _ _
          · first | with_reducible rfl | rfl
set_option maxRecDepth 1000000 in
theorem t7_md_goesAlong {X : Nat × (Nat → Int32)} {ar fi : Nat → Nat → Int32} {m1 m2 m3 m4 m5 : Nat} {x y : Int32} {l3 : Int32} {l4 : Int32} {b88 : Nat → Int32} {b89 : Nat → Int32} {b91 : Nat → Int32} : zseg X zFT zE0 zc_227 (fun p => Nat.beq p 52 || Nat.beq p 151 || Nat.beq p 7) 400 7 [.ref 64, .int x, .int y, .int l3, .int l4] [] ((zua (zua (zua ar 88 b88) 89 b89) 91 b91), fi, (m1, m2, m3, m4, m5)) = (
  bif decide (l4 = (2 * x) + 1) then
   zg (Nat.beq 16 16 && (zin l3 192)) (
   some (.inl (52, [.ref 64, .int x, .int y, .int l3, .int l4, .int l3], [], ((zua (zua (zua (zua ar 88 b88) 89 b89) 91 b91) 91 (zup b91 (l3.toNatClampNeg) l4)), fi, (m1, m2, m3, m4, m5)))))
  else
   zg (Nat.beq 16 16 && (zin l3 192)) (
   zg (Nat.beq 16 16 && (zin l4 192)) (
   some (.inl (7, [.ref 64, .int x, .int y, .int (l3 + 1), .int ((ar 90) (l4.toNatClampNeg))], [], ((zua (zua (zua (zua ar 88 b88) 89 b89) 91 b91) 91 (zup b91 (l3.toNatClampNeg) l4)), fi, (m1, m2, m3, m4, m5)))))) : Option ((Nat × List Value × List Value × zH2) ⊕ zO2)) := by with_unfolding_all rfl
set_option maxRecDepth 20000 in
theorem k_md_goesAlong_7 {X : Nat × (Nat → Int32)} {ar fi : Nat → Nat → Int32} {m1 m2 m3 m4 m5 : Nat} {x y : Int32} {b88 : Nat → Int32} {b89 : Nat → Int32} {o : zO2} : ∀ (s : U_md_goesAlong_7) (q : U_md_goesAlong_7 ⊕ T_md_goesAlong), f_md_goesAlong_7 x y (ar 90) b88 b89 s = some q → zq (M_md_goesAlong_7 X zE0 ar fi m1 m2 m3 m4 m5 x y b88 b89 o) (fun t => O_md_goesAlong ar fi m1 m2 m3 m4 m5 t = o) q → M_md_goesAlong_7 X zE0 ar fi m1 m2 m3 m4 m5 x y b88 b89 o s := by
  intro s q h hq
  obtain ⟨l3, l4, b91⟩ := s
  have h : b_md_goesAlong_7 x y (ar 90) b88 b89 l3 l4 b91 = some q := h
  unfold b_md_goesAlong_7 at h
  show zR2 X zFT zE0 zc_227 7 [.ref 64, .int x, .int y, .int l3, .int l4] [] ((zua (zua (zua ar 88 b88) 89 b89) 91 b91), fi, (m1, m2, m3, m4, m5)) o
  refine zT_seg t7_md_goesAlong ?_
  obtain ⟨TT, hTT⟩ : ∃ T, T = zT X zFT zE0 zc_227 o := ⟨_, rfl⟩
  rw [← hTT]
  refine zb_el h (fun hb h => zU_t hTT hb ?_) (fun hb h => zU_f hTT hb ?_)
  · refine zg_el h (fun hg h => zU_ga hTT hg ?_)
    rw [hTT]
    refine zbd_el h (fun r hr h => ?_)
    have hz := zsi h hq
    refine zR2_hp ?_ ?_ (zlp_K k_md_goesAlong_52 hr hz)
    · first | with_reducible rfl | exact hA4_md_goesAlong _ _ _ _ _
    · first | with_reducible rfl | rfl
  · refine zg_el h (fun hg h => zU_ga hTT hg ?_)
    refine zg_el h (fun hg h => zU_ga hTT hg ?_)
    rw [hTT]
    have hz := zsi h hq
    refine zR2_hp ?_ ?_ hz
    · first | with_reducible rfl | exact hA4_md_goesAlong _ _ _ _ _
    · first | with_reducible rfl | rfl
set_option maxRecDepth 1000000 in
theorem t_md_goesAlong {X : Nat × (Nat → Int32)} {ar fi : Nat → Nat → Int32} {m1 m2 m3 m4 m5 : Nat} {x y : Int32} : zseg X zFT zE0 zc_227 (fun p => Nat.beq p 52 || Nat.beq p 151 || Nat.beq p 7) 400 0 [.ref 64, .int x, .int y] [] (ar, fi, (m1, m2, m3, m4, m5)) = (
  some (.inl (7, [.ref 64, .int x, .int y, .int 0, .int (2 * y)], [], (ar, fi, (m1, m2, m3, m4, m5)))) : Option ((Nat × List Value × List Value × zH2) ⊕ zO2)) := by with_unfolding_all rfl
set_option maxRecDepth 20000 in
theorem e_md_goesAlong {X : Nat × (Nat → Int32)} {ar fi : Nat → Nat → Int32} {m1 m2 m3 m4 m5 : Nat} {x y : Int32} {o : zO2} : ∀ (q : T_md_goesAlong), q_md_goesAlong x y (ar 88) (ar 89) (ar 90) (ar 91) = some q → (fun t => O_md_goesAlong ar fi m1 m2 m3 m4 m5 t = o) q → zR2 X zFT zE0 zc_227 0 [.ref 64, .int x, .int y] [] (ar, fi, (m1, m2, m3, m4, m5)) o := by
  intro q h hq
  unfold q_md_goesAlong at h
  refine zT_seg t_md_goesAlong ?_
  obtain ⟨TT, hTT⟩ : ∃ T, T = zT X zFT zE0 zc_227 o := ⟨_, rfl⟩
  rw [← hTT]
  rw [hTT]
  refine zR2_hp ?_ ?_ (zlp_K k_md_goesAlong_7 h hq)
  · first | with_reducible rfl | exact hA5_md_goesAlong _
  · first | with_reducible rfl | rfl
theorem ok_md_goesAlong (X : Nat × (Nat → Int32)) : zOkS X 227 S_md_goesAlong 1 := zOkS_new (zOkE_nil X 0) (by
  intro args g o h
  obtain ⟨ar, fi, m1, m2, m3, m4, m5⟩ := g
  unfold S_md_goesAlong P_md_goesAlong at h
  split at h
  · refine zb_el h (fun hI0 k0 => ?_) (fun _ h10 => ?_)
    · try simp only [Bool.and_eq_true] at hI0
      have j0 := hI0
      have e0 := Nat.eq_of_beq_eq_true j0
      subst e0
      exact zpe_el k0 (fun t ht ho => by obtain ⟨t0, t1, t2⟩ := t; exact e_md_goesAlong _ ht ho)
    · cases h10
  · cases h)
