abbrev T_cl_oddsOf : Type := Int32
abbrev U_cl_oddsOf_8 : Type := Int32 × Int32 × Int32
def b_cl_oddsOf_8 (y : Int32) (z : Int32) (a1 : Nat → Int32) (l3 : Int32) (l4 : Int32) (l5 : Int32) : Option (U_cl_oddsOf_8 ⊕ T_cl_oddsOf) :=
  bif decide (y ≤ l5) then
   bif !decide (z = 0) then
    some (.inr l4)
   else
    some (.inr l3)
  else
   zg (zin ((2 * l5) + 1) 260) (
   bif decide (a1 (((2 * l5) + 1).toNatClampNeg) ≤ 10) then
    zg (zin (2 * l5) 260) (
    some (.inl (l3 + ((a1 ((2 * l5).toNatClampNeg)) * (a1 (((2 * l5) + 1).toNatClampNeg))), l4 * (a1 (((2 * l5) + 1).toNatClampNeg)), l5 + 1)))
   else
    some (.inr (-2)))
def f_cl_oddsOf_8 (y : Int32) (z : Int32) (a1 : Nat → Int32) : U_cl_oddsOf_8 → Option (U_cl_oddsOf_8 ⊕ T_cl_oddsOf) := fun s => b_cl_oddsOf_8 y z a1 s.1 s.2.1 s.2.2
noncomputable def l_cl_oddsOf_8 (y : Int32) (z : Int32) (a1 : Nat → Int32) (l3 : Int32) (l4 : Int32) (l5 : Int32) : Option T_cl_oddsOf := zlp (f_cl_oddsOf_8 y z a1) (l3, l4, l5)
noncomputable def q_cl_oddsOf (y : Int32) (z : Int32) (a1 : Nat → Int32) : Option T_cl_oddsOf :=
  l_cl_oddsOf_8 y z a1 0 1 0
def P_cl_oddsOf (Q : Int32 → Int32 → (Nat → Int32) → Option (Int32)) : zSp := fun as g => match as with
  | [.ref a, .int y, .int z] => bif Nat.beq a 1 then zpe (Q y z (g.1 1)) (fun t => (some (.int t), (g.1, g.2.1, g.2.2))) else none
  | _ => none
noncomputable abbrev S_cl_oddsOf : zSp := P_cl_oddsOf q_cl_oddsOf
def O_cl_oddsOf (ar fi : Nat → Nat → Int32) (m1 : Nat) (m2 : Nat) (m3 : Nat) (m4 : Nat) (m5 : Nat) (t : T_cl_oddsOf) : zO2 := (some (.int t), (ar, fi, (m1, m2, m3, m4, m5)))
def M_cl_oddsOf_8 (X : Nat × (Nat → Int32)) (E : zTE) (ar fi : Nat → Nat → Int32) (m1 : Nat) (m2 : Nat) (m3 : Nat) (m4 : Nat) (m5 : Nat) (y : Int32) (z : Int32) (o : zO2) (s : U_cl_oddsOf_8) : Prop := match s with
  | (l3, l4, l5) => zR2 X zFT E zc_10 8 [.ref 1, .int y, .int z, .int l3, .int l4, .int l5] [] (ar, fi, (m1, m2, m3, m4, m5)) o
set_option maxRecDepth 1000000 in
theorem t8_cl_oddsOf {X : Nat × (Nat → Int32)} {ar fi : Nat → Nat → Int32} {m1 m2 m3 m4 m5 : Nat} {y z : Int32} {l3 : Int32} {l4 : Int32} {l5 : Int32} : zseg X zFT zE0 zc_10 (fun p => Nat.beq p 8) 400 8 [.ref 1, .int y, .int z, .int l3, .int l4, .int l5] [] (ar, fi, (m1, m2, m3, m4, m5)) = (
  bif decide (y ≤ l5) then
   bif !decide (z = 0) then
    some (.inr (some (.int l4), (ar, fi, (m1, m2, m3, m4, m5))))
   else
    some (.inr (some (.int l3), (ar, fi, (m1, m2, m3, m4, m5))))
  else
   zg (Nat.beq 16 16 && (zin ((2 * l5) + 1) 260)) (
   bif decide ((ar 1) (((2 * l5) + 1).toNatClampNeg) ≤ 10) then
    zg (Nat.beq 16 16 && (zin (2 * l5) 260)) (
    some (.inl (8, [.ref 1, .int y, .int z, .int (l3 + (((ar 1) ((2 * l5).toNatClampNeg)) * ((ar 1) (((2 * l5) + 1).toNatClampNeg)))), .int (l4 * ((ar 1) (((2 * l5) + 1).toNatClampNeg))), .int (l5 + 1)], [], (ar, fi, (m1, m2, m3, m4, m5)))))
   else
    some (.inr (some (.int (-2)), (ar, fi, (m1, m2, m3, m4, m5))))) : Option ((Nat × List Value × List Value × zH2) ⊕ zO2)) := by with_unfolding_all rfl
set_option maxRecDepth 20000 in
theorem k_cl_oddsOf_8 {X : Nat × (Nat → Int32)} {ar fi : Nat → Nat → Int32} {m1 m2 m3 m4 m5 : Nat} {y z : Int32} {o : zO2} : ∀ (s : U_cl_oddsOf_8) (q : U_cl_oddsOf_8 ⊕ T_cl_oddsOf), f_cl_oddsOf_8 y z (ar 1) s = some q → zq (M_cl_oddsOf_8 X zE0 ar fi m1 m2 m3 m4 m5 y z o) (fun t => O_cl_oddsOf ar fi m1 m2 m3 m4 m5 t = o) q → M_cl_oddsOf_8 X zE0 ar fi m1 m2 m3 m4 m5 y z o s := by
  intro s q h hq
  obtain ⟨l3, l4, l5⟩ := s
  have h : b_cl_oddsOf_8 y z (ar 1) l3 l4 l5 = some q := h
  unfold b_cl_oddsOf_8 at h
  show zR2 X zFT zE0 zc_10 8 [.ref 1, .int y, .int z, .int l3, .int l4, .int l5] [] (ar, fi, (m1, m2, m3, m4, m5)) o
  refine zT_seg t8_cl_oddsOf ?_
  obtain ⟨TT, hTT⟩ : ∃ T, T = zT X zFT zE0 zc_10 o := ⟨_, rfl⟩
  rw [← hTT]
  refine zb_el h (fun hb h => zU_t hTT hb ?_) (fun hb h => zU_f hTT hb ?_)
  · refine zb_el h (fun hb h => zU_t hTT hb ?_) (fun hb h => zU_f hTT hb ?_)
    · rw [hTT]
      have hz := zsi h hq
      refine (zO_mk ?_ ?_).trans hz
      · first | with_reducible rfl | rfl
      · first | with_reducible rfl | rfl
    · rw [hTT]
      have hz := zsi h hq
      refine (zO_mk ?_ ?_).trans hz
      · first | with_reducible rfl | rfl
      · first | with_reducible rfl | rfl
  · refine zg_el h (fun hg h => zU_ga hTT hg ?_)
    refine zb_el h (fun hb h => zU_t hTT hb ?_) (fun hb h => zU_f hTT hb ?_)
    · refine zg_el h (fun hg h => zU_ga hTT hg ?_)
      rw [hTT]
      have hz := zsi h hq
      refine zR2_hp ?_ ?_ hz
      · first | with_reducible rfl | rfl
      · first | with_reducible rfl | rfl
    · rw [hTT]
      have hz := zsi h hq
      refine (zO_mk ?_ ?_).trans hz
      · first | with_reducible rfl | rfl
      · first | with_reducible rfl | rfl
set_option maxRecDepth 1000000 in
theorem t_cl_oddsOf {X : Nat × (Nat → Int32)} {ar fi : Nat → Nat → Int32} {m1 m2 m3 m4 m5 : Nat} {y z : Int32} : zseg X zFT zE0 zc_10 (fun p => Nat.beq p 8) 400 0 [.ref 1, .int y, .int z] [] (ar, fi, (m1, m2, m3, m4, m5)) = (
  some (.inl (8, [.ref 1, .int y, .int z, .int 0, .int 1, .int 0], [], (ar, fi, (m1, m2, m3, m4, m5)))) : Option ((Nat × List Value × List Value × zH2) ⊕ zO2)) := by with_unfolding_all rfl
set_option maxRecDepth 20000 in
theorem e_cl_oddsOf {X : Nat × (Nat → Int32)} {ar fi : Nat → Nat → Int32} {m1 m2 m3 m4 m5 : Nat} {y z : Int32} {o : zO2} : ∀ (q : T_cl_oddsOf), q_cl_oddsOf y z (ar 1) = some q → (fun t => O_cl_oddsOf ar fi m1 m2 m3 m4 m5 t = o) q → zR2 X zFT zE0 zc_10 0 [.ref 1, .int y, .int z] [] (ar, fi, (m1, m2, m3, m4, m5)) o := by
  intro q h hq
  unfold q_cl_oddsOf at h
  refine zT_seg t_cl_oddsOf ?_
  obtain ⟨TT, hTT⟩ : ∃ T, T = zT X zFT zE0 zc_10 o := ⟨_, rfl⟩
  rw [← hTT]
  rw [hTT]
  refine zR2_hp ?_ ?_ (zlp_K k_cl_oddsOf_8 h hq)
  · first | with_reducible rfl | rfl
  · first | with_reducible rfl | rfl
theorem ok_cl_oddsOf (X : Nat × (Nat → Int32)) : zOkS X 10 S_cl_oddsOf 1 := zOkS_new (zOkE_nil X 0) (by
  intro args g o h
  obtain ⟨ar, fi, m1, m2, m3, m4, m5⟩ := g
  unfold S_cl_oddsOf P_cl_oddsOf at h
  split at h
  · refine zb_el h (fun hI0 k0 => ?_) (fun _ h10 => ?_)
    · try simp only [Bool.and_eq_true] at hI0
      have j0 := hI0
      have e0 := Nat.eq_of_beq_eq_true j0
      subst e0
      exact zpe_el k0 (fun t ht ho => e_cl_oddsOf t ht ho)
    · cases h10
  · cases h)
