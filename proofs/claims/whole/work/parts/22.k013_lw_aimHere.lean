abbrev T_lw_aimHere : Type := (Nat → Int32)
abbrev U_lw_aimHere_4 : Type := Int32 × Int32 × (Nat → Int32)
def b_lw_aimHere_4 (f23_7 : Int32) (l2 : Int32) (l3 : Int32) (b25 : Nat → Int32) : Option (U_lw_aimHere_4 ⊕ T_lw_aimHere) :=
  bif decide (240 ≤ l3) then
   some (.inr b25)
  else
   bif decide (l2 < 0) then
    some (.inr b25)
   else
    bif decide (240 ≤ l2) then
     some (.inr b25)
    else
     zg (zin l2 240) (
     zg (zin l2 240) (
     some (.inl (b25 (l2.toNatClampNeg), l3 + 1, (zup b25 (l2.toNatClampNeg) (f23_7))))))
def f_lw_aimHere_4 (f23_7 : Int32) : U_lw_aimHere_4 → Option (U_lw_aimHere_4 ⊕ T_lw_aimHere) := fun s => b_lw_aimHere_4 f23_7 s.1 s.2.1 s.2.2
noncomputable def l_lw_aimHere_4 (f23_7 : Int32) (l2 : Int32) (l3 : Int32) (b25 : Nat → Int32) : Option T_lw_aimHere := zlp (f_lw_aimHere_4 f23_7) (l2, l3, b25)
noncomputable def q_lw_aimHere (x : Int32) (a25 : Nat → Int32) (f23_7 : Int32) : Option T_lw_aimHere :=
  l_lw_aimHere_4 f23_7 x 0 a25
def P_lw_aimHere (Q : Int32 → (Nat → Int32) → Int32 → Option ((Nat → Int32))) : zSp := fun as g => match as with
  | [.ref a, .int x] => bif Nat.beq a 23 then zpe (Q x (g.1 25) (g.2.1 23 7)) (fun t => (none, ((zua g.1 25 t), g.2.1, g.2.2))) else bif Nat.beq a 31 then zpe (Q x (g.1 33) (g.2.1 31 7)) (fun t => (none, ((zua g.1 33 t), g.2.1, g.2.2))) else none
  | _ => none
noncomputable abbrev S_lw_aimHere : zSp := P_lw_aimHere q_lw_aimHere
theorem hA5_lw_aimHere (F : Nat → Nat → Int32) : F = (zua F 33 (F 33)) := zuak_ix F [] [(33, none)] rfl
theorem hA4_lw_aimHere (F : Nat → Nat → Int32) (w0 w1 : Nat → Int32) : (zua (zua F 33 w0) 33 w1) = (zua F 33 w1) := zuak_ix F [(33, w0), (33, w1)] [(33, some 1)] rfl
theorem hA3_lw_aimHere (F : Nat → Nat → Int32) (w0 : Nat → Int32) : (zua F 33 w0) = (zua F 33 w0) := zuak_ix F [(33, w0)] [(33, some 0)] rfl
theorem hA2_lw_aimHere (F : Nat → Nat → Int32) : F = (zua F 25 (F 25)) := zuak_ix F [] [(25, none)] rfl
theorem hA1_lw_aimHere (F : Nat → Nat → Int32) (w0 w1 : Nat → Int32) : (zua (zua F 25 w0) 25 w1) = (zua F 25 w1) := zuak_ix F [(25, w0), (25, w1)] [(25, some 1)] rfl
theorem hA0_lw_aimHere (F : Nat → Nat → Int32) (w0 : Nat → Int32) : (zua F 25 w0) = (zua F 25 w0) := zuak_ix F [(25, w0)] [(25, some 0)] rfl
def O_lw_aimHere_23 (ar fi : Nat → Nat → Int32) (m1 : Nat) (m2 : Nat) (m3 : Nat) (m4 : Nat) (m5 : Nat) (t : T_lw_aimHere) : zO2 := (none, ((zua ar 25 t), fi, (m1, m2, m3, m4, m5)))
def M_lw_aimHere_4_23 (X : Nat × (Nat → Int32)) (E : zTE) (ar fi : Nat → Nat → Int32) (m1 : Nat) (m2 : Nat) (m3 : Nat) (m4 : Nat) (m5 : Nat) (x : Int32) (o : zO2) (s : U_lw_aimHere_4) : Prop := match s with
  | (l2, l3, b25) => zR2 X zFT E zc_41 4 [.ref 23, .int x, .int l2, .int l3] [] ((zua ar 25 b25), fi, (m1, m2, m3, m4, m5)) o
set_option maxRecDepth 1000000 in
theorem t4_lw_aimHere_23 {X : Nat × (Nat → Int32)} {ar fi : Nat → Nat → Int32} {m1 m2 m3 m4 m5 : Nat} {x : Int32} {l2 : Int32} {l3 : Int32} {b25 : Nat → Int32} : zseg X zFT zE0 zc_41 (fun p => Nat.beq p 4) 400 4 [.ref 23, .int x, .int l2, .int l3] [] ((zua ar 25 b25), fi, (m1, m2, m3, m4, m5)) = (
  bif decide (240 ≤ l3) then
   some (.inr (none, ((zua ar 25 b25), fi, (m1, m2, m3, m4, m5))))
  else
   bif decide (l2 < 0) then
    some (.inr (none, ((zua ar 25 b25), fi, (m1, m2, m3, m4, m5))))
   else
    bif decide (240 ≤ l2) then
     some (.inr (none, ((zua ar 25 b25), fi, (m1, m2, m3, m4, m5))))
    else
     zg (Nat.beq 16 16 && (zin l2 240)) (
     zg (Nat.beq 16 16 && (zin l2 240)) (
     some (.inl (4, [.ref 23, .int x, .int (b25 (l2.toNatClampNeg)), .int (l3 + 1)], [], ((zua (zua ar 25 b25) 25 (zup b25 (l2.toNatClampNeg) (fi 23 7))), fi, (m1, m2, m3, m4, m5)))))) : Option ((Nat × List Value × List Value × zH2) ⊕ zO2)) := by with_unfolding_all rfl
set_option maxRecDepth 20000 in
theorem k_lw_aimHere_4_23 {X : Nat × (Nat → Int32)} {ar fi : Nat → Nat → Int32} {m1 m2 m3 m4 m5 : Nat} {x : Int32} {o : zO2} : ∀ (s : U_lw_aimHere_4) (q : U_lw_aimHere_4 ⊕ T_lw_aimHere), f_lw_aimHere_4 (fi 23 7) s = some q → zq (M_lw_aimHere_4_23 X zE0 ar fi m1 m2 m3 m4 m5 x o) (fun t => O_lw_aimHere_23 ar fi m1 m2 m3 m4 m5 t = o) q → M_lw_aimHere_4_23 X zE0 ar fi m1 m2 m3 m4 m5 x o s := by
  intro s q h hq
  obtain ⟨l2, l3, b25⟩ := s
  have h : b_lw_aimHere_4 (fi 23 7) l2 l3 b25 = some q := h
  unfold b_lw_aimHere_4 at h
  show zR2 X zFT zE0 zc_41 4 [.ref 23, .int x, .int l2, .int l3] [] ((zua ar 25 b25), fi, (m1, m2, m3, m4, m5)) o
  refine zT_seg t4_lw_aimHere_23 ?_
  obtain ⟨TT, hTT⟩ : ∃ T, T = zT X zFT zE0 zc_41 o := ⟨_, rfl⟩
  rw [← hTT]
  refine zb_el h (fun hb h => zU_t hTT hb ?_) (fun hb h => zU_f hTT hb ?_)
  · rw [hTT]
    have hz := zsi h hq
    refine (zO_mk ?_ ?_).trans hz
    · first | with_reducible rfl | exact hA0_lw_aimHere _ _
    · first | with_reducible rfl | rfl
  · refine zb_el h (fun hb h => zU_t hTT hb ?_) (fun hb h => zU_f hTT hb ?_)
    · rw [hTT]
      have hz := zsi h hq
      refine (zO_mk ?_ ?_).trans hz
      · first | with_reducible rfl | exact hA0_lw_aimHere _ _
      · first | with_reducible rfl | rfl
    · refine zb_el h (fun hb h => zU_t hTT hb ?_) (fun hb h => zU_f hTT hb ?_)
      · rw [hTT]
        have hz := zsi h hq
        refine (zO_mk ?_ ?_).trans hz
        · first | with_reducible rfl | exact hA0_lw_aimHere _ _
        · first | with_reducible rfl | rfl
      · refine zg_el h (fun hg h => zU_ga hTT hg ?_)
        refine zg_el h (fun hg h => zU_ga hTT hg ?_)
        rw [hTT]
        have hz := zsi h hq
        refine zR2_hp ?_ ?_ hz
        · first | with_reducible rfl | exact hA1_lw_aimHere _ _ _
        · first | with_reducible rfl | rfl
set_option maxRecDepth 1000000 in
theorem t_lw_aimHere_23 {X : Nat × (Nat → Int32)} {ar fi : Nat → Nat → Int32} {m1 m2 m3 m4 m5 : Nat} {x : Int32} : zseg X zFT zE0 zc_41 (fun p => Nat.beq p 4) 400 0 [.ref 23, .int x] [] (ar, fi, (m1, m2, m3, m4, m5)) = (
  some (.inl (4, [.ref 23, .int x, .int x, .int 0], [], (ar, fi, (m1, m2, m3, m4, m5)))) : Option ((Nat × List Value × List Value × zH2) ⊕ zO2)) := by with_unfolding_all rfl
set_option maxRecDepth 20000 in
theorem e_lw_aimHere_23 {X : Nat × (Nat → Int32)} {ar fi : Nat → Nat → Int32} {m1 m2 m3 m4 m5 : Nat} {x : Int32} {o : zO2} : ∀ (q : T_lw_aimHere), q_lw_aimHere x (ar 25) (fi 23 7) = some q → (fun t => O_lw_aimHere_23 ar fi m1 m2 m3 m4 m5 t = o) q → zR2 X zFT zE0 zc_41 0 [.ref 23, .int x] [] (ar, fi, (m1, m2, m3, m4, m5)) o := by
  intro q h hq
  unfold q_lw_aimHere at h
  refine zT_seg t_lw_aimHere_23 ?_
  obtain ⟨TT, hTT⟩ : ∃ T, T = zT X zFT zE0 zc_41 o := ⟨_, rfl⟩
  rw [← hTT]
  rw [hTT]
  refine zR2_hp ?_ ?_ (zlp_K k_lw_aimHere_4_23 h hq)
  · first | with_reducible rfl | exact hA2_lw_aimHere _
  · first | with_reducible rfl | rfl
def O_lw_aimHere_31 (ar fi : Nat → Nat → Int32) (m1 : Nat) (m2 : Nat) (m3 : Nat) (m4 : Nat) (m5 : Nat) (t : T_lw_aimHere) : zO2 := (none, ((zua ar 33 t), fi, (m1, m2, m3, m4, m5)))
def M_lw_aimHere_4_31 (X : Nat × (Nat → Int32)) (E : zTE) (ar fi : Nat → Nat → Int32) (m1 : Nat) (m2 : Nat) (m3 : Nat) (m4 : Nat) (m5 : Nat) (x : Int32) (o : zO2) (s : U_lw_aimHere_4) : Prop := match s with
  | (l2, l3, b33) => zR2 X zFT E zc_41 4 [.ref 31, .int x, .int l2, .int l3] [] ((zua ar 33 b33), fi, (m1, m2, m3, m4, m5)) o
set_option maxRecDepth 1000000 in
theorem t4_lw_aimHere_31 {X : Nat × (Nat → Int32)} {ar fi : Nat → Nat → Int32} {m1 m2 m3 m4 m5 : Nat} {x : Int32} {l2 : Int32} {l3 : Int32} {b33 : Nat → Int32} : zseg X zFT zE0 zc_41 (fun p => Nat.beq p 4) 400 4 [.ref 31, .int x, .int l2, .int l3] [] ((zua ar 33 b33), fi, (m1, m2, m3, m4, m5)) = (
  bif decide (240 ≤ l3) then
   some (.inr (none, ((zua ar 33 b33), fi, (m1, m2, m3, m4, m5))))
  else
   bif decide (l2 < 0) then
    some (.inr (none, ((zua ar 33 b33), fi, (m1, m2, m3, m4, m5))))
   else
    bif decide (240 ≤ l2) then
     some (.inr (none, ((zua ar 33 b33), fi, (m1, m2, m3, m4, m5))))
    else
     zg (Nat.beq 16 16 && (zin l2 240)) (
     zg (Nat.beq 16 16 && (zin l2 240)) (
     some (.inl (4, [.ref 31, .int x, .int (b33 (l2.toNatClampNeg)), .int (l3 + 1)], [], ((zua (zua ar 33 b33) 33 (zup b33 (l2.toNatClampNeg) (fi 31 7))), fi, (m1, m2, m3, m4, m5)))))) : Option ((Nat × List Value × List Value × zH2) ⊕ zO2)) := by with_unfolding_all rfl
set_option maxRecDepth 20000 in
theorem k_lw_aimHere_4_31 {X : Nat × (Nat → Int32)} {ar fi : Nat → Nat → Int32} {m1 m2 m3 m4 m5 : Nat} {x : Int32} {o : zO2} : ∀ (s : U_lw_aimHere_4) (q : U_lw_aimHere_4 ⊕ T_lw_aimHere), f_lw_aimHere_4 (fi 31 7) s = some q → zq (M_lw_aimHere_4_31 X zE0 ar fi m1 m2 m3 m4 m5 x o) (fun t => O_lw_aimHere_31 ar fi m1 m2 m3 m4 m5 t = o) q → M_lw_aimHere_4_31 X zE0 ar fi m1 m2 m3 m4 m5 x o s := by
  intro s q h hq
  obtain ⟨l2, l3, b33⟩ := s
  have h : b_lw_aimHere_4 (fi 31 7) l2 l3 b33 = some q := h
  unfold b_lw_aimHere_4 at h
  show zR2 X zFT zE0 zc_41 4 [.ref 31, .int x, .int l2, .int l3] [] ((zua ar 33 b33), fi, (m1, m2, m3, m4, m5)) o
  refine zT_seg t4_lw_aimHere_31 ?_
  obtain ⟨TT, hTT⟩ : ∃ T, T = zT X zFT zE0 zc_41 o := ⟨_, rfl⟩
  rw [← hTT]
  refine zb_el h (fun hb h => zU_t hTT hb ?_) (fun hb h => zU_f hTT hb ?_)
  · rw [hTT]
    have hz := zsi h hq
    refine (zO_mk ?_ ?_).trans hz
    · first | with_reducible rfl | exact hA3_lw_aimHere _ _
    · first | with_reducible rfl | rfl
  · refine zb_el h (fun hb h => zU_t hTT hb ?_) (fun hb h => zU_f hTT hb ?_)
    · rw [hTT]
      have hz := zsi h hq
      refine (zO_mk ?_ ?_).trans hz
      · first | with_reducible rfl | exact hA3_lw_aimHere _ _
      · first | with_reducible rfl | rfl
    · refine zb_el h (fun hb h => zU_t hTT hb ?_) (fun hb h => zU_f hTT hb ?_)
      · rw [hTT]
        have hz := zsi h hq
        refine (zO_mk ?_ ?_).trans hz
        · first | with_reducible rfl | exact hA3_lw_aimHere _ _
        · first | with_reducible rfl | rfl
      · refine zg_el h (fun hg h => zU_ga hTT hg ?_)
        refine zg_el h (fun hg h => zU_ga hTT hg ?_)
        rw [hTT]
        have hz := zsi h hq
        refine zR2_hp ?_ ?_ hz
        · first | with_reducible rfl | exact hA4_lw_aimHere _ _ _
        · first | with_reducible rfl | rfl
set_option maxRecDepth 1000000 in
theorem t_lw_aimHere_31 {X : Nat × (Nat → Int32)} {ar fi : Nat → Nat → Int32} {m1 m2 m3 m4 m5 : Nat} {x : Int32} : zseg X zFT zE0 zc_41 (fun p => Nat.beq p 4) 400 0 [.ref 31, .int x] [] (ar, fi, (m1, m2, m3, m4, m5)) = (
  some (.inl (4, [.ref 31, .int x, .int x, .int 0], [], (ar, fi, (m1, m2, m3, m4, m5)))) : Option ((Nat × List Value × List Value × zH2) ⊕ zO2)) := by with_unfolding_all rfl
set_option maxRecDepth 20000 in
theorem e_lw_aimHere_31 {X : Nat × (Nat → Int32)} {ar fi : Nat → Nat → Int32} {m1 m2 m3 m4 m5 : Nat} {x : Int32} {o : zO2} : ∀ (q : T_lw_aimHere), q_lw_aimHere x (ar 33) (fi 31 7) = some q → (fun t => O_lw_aimHere_31 ar fi m1 m2 m3 m4 m5 t = o) q → zR2 X zFT zE0 zc_41 0 [.ref 31, .int x] [] (ar, fi, (m1, m2, m3, m4, m5)) o := by
  intro q h hq
  unfold q_lw_aimHere at h
  refine zT_seg t_lw_aimHere_31 ?_
  obtain ⟨TT, hTT⟩ : ∃ T, T = zT X zFT zE0 zc_41 o := ⟨_, rfl⟩
  rw [← hTT]
  rw [hTT]
  refine zR2_hp ?_ ?_ (zlp_K k_lw_aimHere_4_31 h hq)
  · first | with_reducible rfl | exact hA5_lw_aimHere _
  · first | with_reducible rfl | rfl
theorem ok_lw_aimHere (X : Nat × (Nat → Int32)) : zOkS X 41 S_lw_aimHere 1 := zOkS_new (zOkE_nil X 0) (by
  intro args g o h
  obtain ⟨ar, fi, m1, m2, m3, m4, m5⟩ := g
  unfold S_lw_aimHere P_lw_aimHere at h
  split at h
  · refine zb_el h (fun hI0 k0 => ?_) (fun _ h10 => ?_)
    · try simp only [Bool.and_eq_true] at hI0
      have j0 := hI0
      have e0 := Nat.eq_of_beq_eq_true j0
      subst e0
      exact zpe_el k0 (fun t ht ho => e_lw_aimHere_23 t ht ho)
    · skip
      refine zb_el h10 (fun hI1 k1 => ?_) (fun _ h11 => ?_)
      · try simp only [Bool.and_eq_true] at hI1
        have j0 := hI1
        have e0 := Nat.eq_of_beq_eq_true j0
        subst e0
        exact zpe_el k1 (fun t ht ho => e_lw_aimHere_31 t ht ho)
      · cases h11
  · cases h)
