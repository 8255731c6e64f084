abbrev T_cl_putInOrder : Type := (Nat → Int32)
abbrev U_cl_putInOrder_2 : Type := Int32 × (Nat → Int32)
def b_cl_putInOrder_2 (y : Int32) (a1 : Nat → Int32) (l3 : Int32) (b63 : Nat → Int32) : Option (U_cl_putInOrder_2 ⊕ T_cl_putInOrder) :=
  bif decide (l3 ≤ 0) then
   zg (zin l3 10) (
   some (.inr (zup b63 (l3.toNatClampNeg) y)))
  else
   zg (zin (l3 - 1) 10) (
   zg (zin ((3 * (b63 ((l3 - 1).toNatClampNeg))) + 2) 260) (
   zg (zin ((3 * y) + 2) 260) (
   bif decide (a1 (((3 * (b63 ((l3 - 1).toNatClampNeg))) + 2).toNatClampNeg) ≤ a1 (((3 * y) + 2).toNatClampNeg)) then
    zg (zin l3 10) (
    some (.inr (zup b63 (l3.toNatClampNeg) y)))
   else
    zg (zin (l3 - 1) 10) (
    zg (zin l3 10) (
    some (.inl (l3 + (-1), (zup b63 (l3.toNatClampNeg) (b63 ((l3 - 1).toNatClampNeg))))))))))
def f_cl_putInOrder_2 (y : Int32) (a1 : Nat → Int32) : U_cl_putInOrder_2 → Option (U_cl_putInOrder_2 ⊕ T_cl_putInOrder) := fun s => b_cl_putInOrder_2 y a1 s.1 s.2
noncomputable def l_cl_putInOrder_2 (y : Int32) (a1 : Nat → Int32) (l3 : Int32) (b63 : Nat → Int32) : Option T_cl_putInOrder := zlp (f_cl_putInOrder_2 y a1) (l3, b63)
noncomputable def q_cl_putInOrder (y : Int32) (a1 : Nat → Int32) (a63 : Nat → Int32) : Option T_cl_putInOrder :=
  l_cl_putInOrder_2 y a1 y a63
def P_cl_putInOrder (Q : Int32 → (Nat → Int32) → (Nat → Int32) → Option ((Nat → Int32))) : zSp := fun as g => match as with
  | [.ref a, .ref b, .int y] => bif Nat.beq a 62 && Nat.beq b 1 then zpe (Q y (g.1 1) (g.1 63)) (fun t => (none, ((zua g.1 63 t), g.2.1, g.2.2))) else none
  | _ => none
noncomputable abbrev S_cl_putInOrder : zSp := P_cl_putInOrder q_cl_putInOrder
theorem hA1_cl_putInOrder (F : Nat → Nat → Int32) : F = (zua F 63 (F 63)) := zuak_ix F [] [(63, none)] rfl
theorem hA0_cl_putInOrder (F : Nat → Nat → Int32) (w0 w1 : Nat → Int32) : (zua (zua F 63 w0) 63 w1) = (zua F 63 w1) := zuak_ix F [(63, w0), (63, w1)] [(63, some 1)] rfl
def O_cl_putInOrder (ar fi : Nat → Nat → Int32) (m1 : Nat) (m2 : Nat) (m3 : Nat) (m4 : Nat) (m5 : Nat) (t : T_cl_putInOrder) : zO2 := (none, ((zua ar 63 t), fi, (m1, m2, m3, m4, m5)))
def M_cl_putInOrder_2 (X : Nat × (Nat → Int32)) (E : zTE) (ar fi : Nat → Nat → Int32) (m1 : Nat) (m2 : Nat) (m3 : Nat) (m4 : Nat) (m5 : Nat) (y : Int32) (o : zO2) (s : U_cl_putInOrder_2) : Prop := match s with
  | (l3, b63) => zR2 X zFT E zc_8 2 [.ref 62, .ref 1, .int y, .int l3] [] ((zua ar 63 b63), fi, (m1, m2, m3, m4, m5)) o
set_option maxRecDepth 1000000 in
theorem t2_cl_putInOrder {X : Nat × (Nat → Int32)} {ar fi : Nat → Nat → Int32} {m1 m2 m3 m4 m5 : Nat} {y : Int32} {l3 : Int32} {b63 : Nat → Int32} : zseg X zFT zE0 zc_8 (fun p => Nat.beq p 2) 400 2 [.ref 62, .ref 1, .int y, .int l3] [] ((zua ar 63 b63), fi, (m1, m2, m3, m4, m5)) = (
  bif decide (l3 ≤ 0) then
   zg (Nat.beq 16 16 && (zin l3 10)) (
   some (.inr (none, ((zua (zua ar 63 b63) 63 (zup b63 (l3.toNatClampNeg) y)), fi, (m1, m2, m3, m4, m5)))))
  else
   zg (Nat.beq 16 16 && (zin (l3 - 1) 10)) (
   zg (Nat.beq 16 16 && (zin ((3 * (b63 ((l3 - 1).toNatClampNeg))) + 2) 260)) (
   zg (Nat.beq 16 16 && (zin ((3 * y) + 2) 260)) (
   bif decide ((ar 1) (((3 * (b63 ((l3 - 1).toNatClampNeg))) + 2).toNatClampNeg) ≤ (ar 1) (((3 * y) + 2).toNatClampNeg)) then
    zg (Nat.beq 16 16 && (zin l3 10)) (
    some (.inr (none, ((zua (zua ar 63 b63) 63 (zup b63 (l3.toNatClampNeg) y)), fi, (m1, m2, m3, m4, m5)))))
   else
    zg (Nat.beq 16 16 && (zin (l3 - 1) 10)) (
    zg (Nat.beq 16 16 && (zin l3 10)) (
    some (.inl (2, [.ref 62, .ref 1, .int y, .int (l3 + (-1))], [], ((zua (zua ar 63 b63) 63 (zup b63 (l3.toNatClampNeg) (b63 ((l3 - 1).toNatClampNeg)))), fi, (m1, m2, m3, m4, m5))))))))) : Option ((Nat × List Value × List Value × zH2) ⊕ zO2)) := by with_unfolding_all rfl
set_option maxRecDepth 20000 in
theorem k_cl_putInOrder_2 {X : Nat × (Nat → Int32)} {ar fi : Nat → Nat → Int32} {m1 m2 m3 m4 m5 : Nat} {y : Int32} {o : zO2} : ∀ (s : U_cl_putInOrder_2) (q : U_cl_putInOrder_2 ⊕ T_cl_putInOrder), f_cl_putInOrder_2 y (ar 1) s = some q → zq (M_cl_putInOrder_2 X zE0 ar fi m1 m2 m3 m4 m5 y o) (fun t => O_cl_putInOrder ar fi m1 m2 m3 m4 m5 t = o) q → M_cl_putInOrder_2 X zE0 ar fi m1 m2 m3 m4 m5 y o s := by
  intro s q h hq
  obtain ⟨l3, b63⟩ := s
  have h : b_cl_putInOrder_2 y (ar 1) l3 b63 = some q := h
  unfold b_cl_putInOrder_2 at h
  show zR2 X zFT zE0 zc_8 2 [.ref 62, .ref 1, .int y, .int l3] [] ((zua ar 63 b63), fi, (m1, m2, m3, m4, m5)) o
  refine zT_seg t2_cl_putInOrder ?_
  obtain ⟨TT, hTT⟩ : ∃ T, T = zT X zFT zE0 zc_8 o := ⟨_, rfl⟩
  rw [← hTT]
  refine zb_el h (fun hb h => zU_t hTT hb ?_) (fun hb h => zU_f hTT hb ?_)
  · refine zg_el h (fun hg h => zU_ga hTT hg ?_)
    rw [hTT]
    have hz := zsi h hq
    refine (zO_mk ?_ ?_).trans hz
    · first | with_reducible rfl | exact hA0_cl_putInOrder _ _ _
    · first | with_reducible rfl | rfl
  · refine zg_el h (fun hg h => zU_ga hTT hg ?_)
    refine zg_el h (fun hg h => zU_ga hTT hg ?_)
    refine zg_el h (fun hg h => zU_ga hTT hg ?_)
    refine zb_el h (fun hb h => zU_t hTT hb ?_) (fun hb h => zU_f hTT hb ?_)
    · refine zg_el h (fun hg h => zU_ga hTT hg ?_)
      rw [hTT]
      have hz := zsi h hq
      refine (zO_mk ?_ ?_).trans hz
      · first | with_reducible rfl | exact hA0_cl_putInOrder _ _ _
      · first | with_reducible rfl | rfl
    · refine zg_el h (fun hg h => zU_ga hTT hg ?_)
      refine zg_el h (fun hg h => zU_ga hTT hg ?_)
      rw [hTT]
      have hz := zsi h hq
      refine zR2_hp ?_ ?_ hz
      · first | with_reducible rfl | exact hA0_cl_putInOrder _ _ _
      · first | with_reducible rfl | rfl
set_option maxRecDepth 1000000 in
theorem t_cl_putInOrder {X : Nat × (Nat → Int32)} {ar fi : Nat → Nat → Int32} {m1 m2 m3 m4 m5 : Nat} {y : Int32} : zseg X zFT zE0 zc_8 (fun p => Nat.beq p 2) 400 0 [.ref 62, .ref 1, .int y] [] (ar, fi, (m1, m2, m3, m4, m5)) = (
  some (.inl (2, [.ref 62, .ref 1, .int y, .int y], [], (ar, fi, (m1, m2, m3, m4, m5)))) : Option ((Nat × List Value × List Value × zH2) ⊕ zO2)) := by with_unfolding_all rfl
set_option maxRecDepth 20000 in
theorem e_cl_putInOrder {X : Nat × (Nat → Int32)} {ar fi : Nat → Nat → Int32} {m1 m2 m3 m4 m5 : Nat} {y : Int32} {o : zO2} : ∀ (q : T_cl_putInOrder), q_cl_putInOrder y (ar 1) (ar 63) = some q → (fun t => O_cl_putInOrder ar fi m1 m2 m3 m4 m5 t = o) q → zR2 X zFT zE0 zc_8 0 [.ref 62, .ref 1, .int y] [] (ar, fi, (m1, m2, m3, m4, m5)) o := by
  intro q h hq
  unfold q_cl_putInOrder at h
  refine zT_seg t_cl_putInOrder ?_
  obtain ⟨TT, hTT⟩ : ∃ T, T = zT X zFT zE0 zc_8 o := ⟨_, rfl⟩
  rw [← hTT]
  rw [hTT]
  refine zR2_hp ?_ ?_ (zlp_K k_cl_putInOrder_2 h hq)
  · first | with_reducible rfl | exact hA1_cl_putInOrder _
  · first | with_reducible rfl | rfl
theorem ok_cl_putInOrder (X : Nat × (Nat → Int32)) : zOkS X 8 S_cl_putInOrder 1 := zOkS_new (zOkE_nil X 0) (by
  intro args g o h
  obtain ⟨ar, fi, m1, m2, m3, m4, m5⟩ := g
  unfold S_cl_putInOrder P_cl_putInOrder at h
  split at h
  · refine zb_el h (fun hI0 k0 => ?_) (fun _ h10 => ?_)
    · try simp only [Bool.and_eq_true] at hI0
      obtain ⟨j0, j1⟩ := hI0
      have e0 := Nat.eq_of_beq_eq_true j0
      subst e0
      have e1 := Nat.eq_of_beq_eq_true j1
      subst e1
      exact zpe_el k0 (fun t ht ho => e_cl_putInOrder t ht ho)
    · cases h10
  · cases h)
