abbrev T_cl_worthInTime : Type := Int32
abbrev U_cl_worthInTime_9 : Type := Int32 × Int32 × Int32
def b_cl_worthInTime_9 (y : Int32) (z : Int32) (a1 : Nat → Int32) (a63 : Nat → Int32) (l4 : Int32) (l5 : Int32) (l6 : Int32) : Option (U_cl_worthInTime_9 ⊕ T_cl_worthInTime) :=
  bif decide (y ≤ l6) then
   some (.inr l4)
  else
   zg (zin l6 10) (
   bif decide (((Int32.toUInt32 z >>> (Int32.toUInt32 (a63 (l6.toNatClampNeg)) &&& Int32.toUInt32 31)).toInt32) &&& 1 = 0) then
    some (.inl (l4, l5, l6 + 1))
   else
    zg (zin (3 * (a63 (l6.toNatClampNeg))) 260) (
    zg (zin ((3 * (a63 (l6.toNatClampNeg))) + 1) 260) (
    zg (zin ((3 * (a63 (l6.toNatClampNeg))) + 2) 260) (
    bif decide (l5 + (a1 ((3 * (a63 (l6.toNatClampNeg))).toNatClampNeg)) ≤ a1 (((3 * (a63 (l6.toNatClampNeg))) + 2).toNatClampNeg)) then
     some (.inl (l4 + (a1 (((3 * (a63 (l6.toNatClampNeg))) + 1).toNatClampNeg)), l5 + (a1 ((3 * (a63 (l6.toNatClampNeg))).toNatClampNeg)), l6 + 1))
    else
     some (.inr 0)))))
def f_cl_worthInTime_9 (y : Int32) (z : Int32) (a1 : Nat → Int32) (a63 : Nat → Int32) : U_cl_worthInTime_9 → Option (U_cl_worthInTime_9 ⊕ T_cl_worthInTime) := fun s => b_cl_worthInTime_9 y z a1 a63 s.1 s.2.1 s.2.2
noncomputable def l_cl_worthInTime_9 (y : Int32) (z : Int32) (a1 : Nat → Int32) (a63 : Nat → Int32) (l4 : Int32) (l5 : Int32) (l6 : Int32) : Option T_cl_worthInTime := zlp (f_cl_worthInTime_9 y z a1 a63) (l4, l5, l6)
noncomputable def q_cl_worthInTime (y : Int32) (z : Int32) (a1 : Nat → Int32) (a63 : Nat → Int32) : Option T_cl_worthInTime :=
  l_cl_worthInTime_9 y z a1 a63 0 0 0
def P_cl_worthInTime (Q : Int32 → Int32 → (Nat → Int32) → (Nat → Int32) → Option (Int32)) : zSp := fun as g => match as with
  | [.ref a, .ref b, .int y, .int z] => bif Nat.beq a 62 && Nat.beq b 1 then zpe (Q y z (g.1 1) (g.1 63)) (fun t => (some (.int t), (g.1, g.2.1, g.2.2))) else none
  | _ => none
noncomputable abbrev S_cl_worthInTime : zSp := P_cl_worthInTime q_cl_worthInTime
def O_cl_worthInTime (ar fi : Nat → Nat → Int32) (m1 : Nat) (m2 : Nat) (m3 : Nat) (m4 : Nat) (m5 : Nat) (t : T_cl_worthInTime) : zO2 := (some (.int t), (ar, fi, (m1, m2, m3, m4, m5)))
def M_cl_worthInTime_9 (X : Nat × (Nat → Int32)) (E : zTE) (ar fi : Nat → Nat → Int32) (m1 : Nat) (m2 : Nat) (m3 : Nat) (m4 : Nat) (m5 : Nat) (y : Int32) (z : Int32) (o : zO2) (s : U_cl_worthInTime_9) : Prop := match s with
  | (l4, l5, l6) => zR2 X zFT E zc_9 9 [.ref 62, .ref 1, .int y, .int z, .int l4, .int l5, .int l6] [] (ar, fi, (m1, m2, m3, m4, m5)) o
set_option maxRecDepth 1000000 in
theorem t9_cl_worthInTime {X : Nat × (Nat → Int32)} {ar fi : Nat → Nat → Int32} {m1 m2 m3 m4 m5 : Nat} {y z : Int32} {l4 : Int32} {l5 : Int32} {l6 : Int32} : zseg X zFT zE0 zc_9 (fun p => Nat.beq p 9) 400 9 [.ref 62, .ref 1, .int y, .int z, .int l4, .int l5, .int l6] [] (ar, fi, (m1, m2, m3, m4, m5)) = (
  bif decide (y ≤ l6) then
   some (.inr (some (.int l4), (ar, fi, (m1, m2, m3, m4, m5))))
  else
   zg (Nat.beq 16 16 && (zin l6 10)) (
   bif decide (((Int32.toUInt32 z >>> (Int32.toUInt32 ((ar 63) (l6.toNatClampNeg)) &&& Int32.toUInt32 31)).toInt32) &&& 1 = 0) then
    some (.inl (9, [.ref 62, .ref 1, .int y, .int z, .int l4, .int l5, .int (l6 + 1)], [], (ar, fi, (m1, m2, m3, m4, m5))))
   else
    zg (Nat.beq 16 16 && (zin (3 * ((ar 63) (l6.toNatClampNeg))) 260)) (
    zg (Nat.beq 16 16 && (zin ((3 * ((ar 63) (l6.toNatClampNeg))) + 1) 260)) (
    zg (Nat.beq 16 16 && (zin ((3 * ((ar 63) (l6.toNatClampNeg))) + 2) 260)) (
    bif decide (l5 + ((ar 1) ((3 * ((ar 63) (l6.toNatClampNeg))).toNatClampNeg)) ≤ (ar 1) (((3 * ((ar 63) (l6.toNatClampNeg))) + 2).toNatClampNeg)) then
     some (.inl (9, [.ref 62, .ref 1, .int y, .int z, .int (l4 + ((ar 1) (((3 * ((ar 63) (l6.toNatClampNeg))) + 1).toNatClampNeg))), .int (l5 + ((ar 1) ((3 * ((ar 63) (l6.toNatClampNeg))).toNatClampNeg))), .int (l6 + 1)], [], (ar, fi, (m1, m2, m3, m4, m5))))
    else
     some (.inr (some (.int 0), (ar, fi, (m1, m2, m3, m4, m5)))))))) : Option ((Nat × List Value × List Value × zH2) ⊕ zO2)) := by with_unfolding_all rfl
set_option maxRecDepth 20000 in
theorem k_cl_worthInTime_9 {X : Nat × (Nat → Int32)} {ar fi : Nat → Nat → Int32} {m1 m2 m3 m4 m5 : Nat} {y z : Int32} {o : zO2} : ∀ (s : U_cl_worthInTime_9) (q : U_cl_worthInTime_9 ⊕ T_cl_worthInTime), f_cl_worthInTime_9 y z (ar 1) (ar 63) s = some q → zq (M_cl_worthInTime_9 X zE0 ar fi m1 m2 m3 m4 m5 y z o) (fun t => O_cl_worthInTime ar fi m1 m2 m3 m4 m5 t = o) q → M_cl_worthInTime_9 X zE0 ar fi m1 m2 m3 m4 m5 y z o s := by
  intro s q h hq
  obtain ⟨l4, l5, l6⟩ := s
  have h : b_cl_worthInTime_9 y z (ar 1) (ar 63) l4 l5 l6 = some q := h
  unfold b_cl_worthInTime_9 at h
  show zR2 X zFT zE0 zc_9 9 [.ref 62, .ref 1, .int y, .int z, .int l4, .int l5, .int l6] [] (ar, fi, (m1, m2, m3, m4, m5)) o
  refine zT_seg t9_cl_worthInTime ?_
  obtain ⟨TT, hTT⟩ : ∃ T, T = zT X zFT zE0 zc_9 o := ⟨_, rfl⟩
  rw [← hTT]
  refine zb_el h (fun hb h => zU_t hTT hb ?_) (fun hb h => zU_f hTT hb ?_)
  · rw [hTT]
    have hz := zsi h hq
    refine (zO_mk ?_ ?_).trans hz
    · first | with_reducible rfl | rfl
    · first | with_reducible rfl | rfl
  · refine zg_el h (fun hg h => zU_ga hTT hg ?_)
    refine zb_el h (fun hb h => zU_t hTT hb ?_) (fun hb h => zU_f hTT hb ?_)
    · rw [hTT]
      have hz := zsi h hq
      refine zR2_hp ?_ ?_ hz
      · first | with_reducible rfl | rfl
      · first | with_reducible rfl | rfl
    · refine zg_el h (fun hg h => zU_ga hTT hg ?_)
      refine zg_el h (fun hg h => zU_ga hTT hg ?_)
      refine zg_el h (fun hg h => zU_ga hTT hg ?_)
      refine zb_el h (fun hb h => zU_t hTT hb ?_) (fun hb h => zU_f hTT hb ?_)
      · rw [hTT]
        have hz := zsi h hq
        refine zR2_hp ?_ ?_ hz
        · first | with_reducible rfl | rfl
        · first | with_reducible rfl | rfl
      · rw [hTT]
        have hz := zsi h hq
        refine (zO_mk ?_ ?_).trans hz
        · first | with_reducible rfl | rfl
        · first | with_reducible rfl | rfl
set_option maxRecDepth 1000000 in
theorem t_cl_worthInTime {X : Nat × (Nat → Int32)} {ar fi : Nat → Nat → Int32} {m1 m2 m3 m4 m5 : Nat} {y z : Int32} : zseg X zFT zE0 zc_9 (fun p => Nat.beq p 9) 400 0 [.ref 62, .ref 1, .int y, .int z] [] (ar, fi, (m1, m2, m3, m4, m5)) = (
  some (.inl (9, [.ref 62, .ref 1, .int y, .int z, .int 0, .int 0, .int 0], [], (ar, fi, (m1, m2, m3, m4, m5)))) : Option ((Nat × List Value × List Value × zH2) ⊕ zO2)) := by with_unfolding_all rfl
set_option maxRecDepth 20000 in
theorem e_cl_worthInTime {X : Nat × (Nat → Int32)} {ar fi : Nat → Nat → Int32} {m1 m2 m3 m4 m5 : Nat} {y z : Int32} {o : zO2} : ∀ (q : T_cl_worthInTime), q_cl_worthInTime y z (ar 1) (ar 63) = some q → (fun t => O_cl_worthInTime ar fi m1 m2 m3 m4 m5 t = o) q → zR2 X zFT zE0 zc_9 0 [.ref 62, .ref 1, .int y, .int z] [] (ar, fi, (m1, m2, m3, m4, m5)) o := by
  intro q h hq
  unfold q_cl_worthInTime at h
  refine zT_seg t_cl_worthInTime ?_
  obtain ⟨TT, hTT⟩ : ∃ T, T = zT X zFT zE0 zc_9 o := ⟨_, rfl⟩
  rw [← hTT]
  rw [hTT]
  refine zR2_hp ?_ ?_ (zlp_K k_cl_worthInTime_9 h hq)
  · first | with_reducible rfl | rfl
  · first | with_reducible rfl | rfl
theorem ok_cl_worthInTime (X : Nat × (Nat → Int32)) : zOkS X 9 S_cl_worthInTime 1 := zOkS_new (zOkE_nil X 0) (by
  intro args g o h
  obtain ⟨ar, fi, m1, m2, m3, m4, m5⟩ := g
  unfold S_cl_worthInTime P_cl_worthInTime at h
  split at h
  · refine zb_el h (fun hI0 k0 => ?_) (fun _ h10 => ?_)
    · try simp only [Bool.and_eq_true] at hI0
      obtain ⟨j0, j1⟩ := hI0
      have e0 := Nat.eq_of_beq_eq_true j0
      subst e0
      have e1 := Nat.eq_of_beq_eq_true j1
      subst e1
      exact zpe_el k0 (fun t ht ho => e_cl_worthInTime t ht ho)
    · cases h10
  · cases h)
