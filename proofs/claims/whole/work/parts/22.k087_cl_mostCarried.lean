abbrev T_cl_mostCarried : Type := Int32 × (Nat → Int32)
abbrev U_cl_mostCarried_2 : Type := Int32 × (Nat → Int32)
abbrev U_cl_mostCarried_46 : Type := Int32 × Int32
noncomputable def b_cl_mostCarried_46 (y : Int32) (a1 : Nat → Int32) (b63 : Nat → Int32) (l3 : Int32) (l4 : Int32) : Option (U_cl_mostCarried_46 ⊕ T_cl_mostCarried) :=
  bif decide (1 <<< (y &&& 31) ≤ l4) then
   some (.inr (l3, b63))
  else
   zbd (q_cl_worthInTime y l4 a1 b63) (fun v2 =>
   some (.inl ((if l3 < v2 then v2 else l3), l4 + 1)))
noncomputable def f_cl_mostCarried_46 (y : Int32) (a1 : Nat → Int32) (b63 : Nat → Int32) : U_cl_mostCarried_46 → Option (U_cl_mostCarried_46 ⊕ T_cl_mostCarried) := fun s => b_cl_mostCarried_46 y a1 b63 s.1 s.2
noncomputable def l_cl_mostCarried_46 (y : Int32) (a1 : Nat → Int32) (b63 : Nat → Int32) (l3 : Int32) (l4 : Int32) : Option T_cl_mostCarried := zlp (f_cl_mostCarried_46 y a1 b63) (l3, l4)
noncomputable def b_cl_mostCarried_2 (y : Int32) (a1 : Nat → Int32) (l3 : Int32) (b63 : Nat → Int32) : Option (U_cl_mostCarried_2 ⊕ T_cl_mostCarried) :=
  bif decide (y ≤ l3) then
   zbd (l_cl_mostCarried_46 y a1 b63 0 1) (fun k => some (.inr k))
  else
   zg (zin (3 * l3) 260) (
   bif decide (a1 ((3 * l3).toNatClampNeg) < 1) then
    some (.inr ((-2), b63))
   else
    zg (zin (3 * l3) 260) (
    bif decide (a1 ((3 * l3).toNatClampNeg) ≤ 60) then
     zbd (q_cl_putInOrder l3 a1 b63) (fun v1 =>
     some (.inl (l3 + 1, (v1))))
    else
     some (.inr ((-2), b63))))
noncomputable def f_cl_mostCarried_2 (y : Int32) (a1 : Nat → Int32) : U_cl_mostCarried_2 → Option (U_cl_mostCarried_2 ⊕ T_cl_mostCarried) := fun s => b_cl_mostCarried_2 y a1 s.1 s.2
noncomputable def l_cl_mostCarried_2 (y : Int32) (a1 : Nat → Int32) (l3 : Int32) (b63 : Nat → Int32) : Option T_cl_mostCarried := zlp (f_cl_mostCarried_2 y a1) (l3, b63)
noncomputable def q_cl_mostCarried (y : Int32) (a1 : Nat → Int32) (a63 : Nat → Int32) : Option T_cl_mostCarried :=
  l_cl_mostCarried_2 y a1 0 a63
def P_cl_mostCarried (Q : Int32 → (Nat → Int32) → (Nat → Int32) → Option (Int32 × (Nat → Int32))) : zSp := fun as g => match as with
  | [.ref a, .ref b, .int y] => bif Nat.beq a 62 && Nat.beq b 1 then zpe (Q y (g.1 1) (g.1 63)) (fun t => (some (.int (t.1)), ((zua g.1 63 t.2), g.2.1, g.2.2))) else none
  | _ => none
noncomputable abbrev S_cl_mostCarried : zSp := P_cl_mostCarried q_cl_mostCarried
theorem hA2_cl_mostCarried (F : Nat → Nat → Int32) : F = (zua F 63 (F 63)) := zuak_ix F [] [(63, none)] rfl
theorem hA1_cl_mostCarried (F : Nat → Nat → Int32) (w0 w1 : Nat → Int32) : (zua (zua F 63 w0) 63 w1) = (zua F 63 w1) := zuak_ix F [(63, w0), (63, w1)] [(63, some 1)] rfl
theorem hA0_cl_mostCarried (F : Nat → Nat → Int32) (w0 : Nat → Int32) : (zua F 63 w0) = (zua F 63 w0) := zuak_ix F [(63, w0)] [(63, some 0)] rfl
def O_cl_mostCarried (ar fi : Nat → Nat → Int32) (m1 : Nat) (m2 : Nat) (m3 : Nat) (m4 : Nat) (m5 : Nat) (t : T_cl_mostCarried) : zO2 := match t with
  | (t0, t1) => (some (.int (t0)), ((zua ar 63 t1), fi, (m1, m2, m3, m4, m5)))
def M_cl_mostCarried_46 (X : Nat × (Nat → Int32)) (E : zTE) (ar fi : Nat → Nat → Int32) (m1 : Nat) (m2 : Nat) (m3 : Nat) (m4 : Nat) (m5 : Nat) (y : Int32) (b63 : Nat → Int32) (o : zO2) (s : U_cl_mostCarried_46) : Prop := match s with
  | (l3, l4) => zR2 X zFT E zc_7 46 [.ref 62, .ref 1, .int y, .int l3, .int l4] [] ((zua ar 63 b63), fi, (m1, m2, m3, m4, m5)) o
def M_cl_mostCarried_2 (X : Nat × (Nat → Int32)) (E : zTE) (ar fi : Nat → Nat → Int32) (m1 : Nat) (m2 : Nat) (m3 : Nat) (m4 : Nat) (m5 : Nat) (y : Int32) (o : zO2) (s : U_cl_mostCarried_2) : Prop := match s with
  | (l3, b63) => zR2 X zFT E zc_7 2 [.ref 62, .ref 1, .int y, .int l3] [] ((zua ar 63 b63), fi, (m1, m2, m3, m4, m5)) o
set_option maxRecDepth 1000000 in
theorem t46_cl_mostCarried {X : Nat × (Nat → Int32)} {ar fi : Nat → Nat → Int32} {m1 m2 m3 m4 m5 : Nat} {y : Int32} {l3 : Int32} {l4 : Int32} {b63 : Nat → Int32} {Q_cl_putInOrder : Int32 → (Nat → Int32) → (Nat → Int32) → Option ((Nat → Int32))} {Q_cl_worthInTime : Int32 → Int32 → (Nat → Int32) → (Nat → Int32) → Option (Int32)} : zseg X zFT (zEx 8 (P_cl_putInOrder Q_cl_putInOrder) (zEx 9 (P_cl_worthInTime Q_cl_worthInTime) zE0)) zc_7 (fun p => Nat.beq p 2 || Nat.beq p 46) 400 46 [.ref 62, .ref 1, .int y, .int l3, .int l4] [] ((zua ar 63 b63), fi, (m1, m2, m3, m4, m5)) = (
  bif decide (1 <<< (y &&& 31) ≤ l4) then
   some (.inr (some (.int l3), ((zua ar 63 b63), fi, (m1, m2, m3, m4, m5))))
  else
   zl (Q_cl_worthInTime y l4 (ar 1) b63) (fun v2 => zg v2.isSome (
   some (.inl (46, [.ref 62, .ref 1, .int y, .int (if l3 < ((zgt v2)) then ((zgt v2)) else l3), .int (l4 + 1)], [], ((zua ar 63 b63), fi, (m1, m2, m3, m4, m5)))))) : Option ((Nat × List Value × List Value × zH2) ⊕ zO2)) := by with_unfolding_all rfl
set_option maxRecDepth 20000 in
theorem k_cl_mostCarried_46 {X : Nat × (Nat → Int32)} {ar fi : Nat → Nat → Int32} {m1 m2 m3 m4 m5 : Nat} {y : Int32} {b63 : Nat → Int32} {o : zO2} : ∀ (s : U_cl_mostCarried_46) (q : U_cl_mostCarried_46 ⊕ T_cl_mostCarried), f_cl_mostCarried_46 y (ar 1) b63 s = some q → zq (M_cl_mostCarried_46 X (zEx 8 S_cl_putInOrder (zEx 9 S_cl_worthInTime zE0)) ar fi m1 m2 m3 m4 m5 y b63 o) (fun t => O_cl_mostCarried ar fi m1 m2 m3 m4 m5 t = o) q → M_cl_mostCarried_46 X (zEx 8 S_cl_putInOrder (zEx 9 S_cl_worthInTime zE0)) ar fi m1 m2 m3 m4 m5 y b63 o s := by
  intro s q h hq
  obtain ⟨l3, l4⟩ := s
  have h : b_cl_mostCarried_46 y (ar 1) b63 l3 l4 = some q := h
  unfold b_cl_mostCarried_46 at h
  show zR2 X zFT (zEx 8 S_cl_putInOrder (zEx 9 S_cl_worthInTime zE0)) zc_7 46 [.ref 62, .ref 1, .int y, .int l3, .int l4] [] ((zua ar 63 b63), fi, (m1, m2, m3, m4, m5)) o
  refine zT_seg t46_cl_mostCarried ?_
  obtain ⟨TT, hTT⟩ : ∃ T, T = zT X zFT (zEx 8 S_cl_putInOrder (zEx 9 S_cl_worthInTime zE0)) zc_7 o := ⟨_, rfl⟩
  rw [← hTT]
  refine zb_el h (fun hb h => zU_t hTT hb ?_) (fun hb h => zU_f hTT hb ?_)
  · rw [hTT]
    have hz := zsi h hq
    refine (zO_mk ?_ ?_).trans hz
    · first | with_reducible rfl | exact hA0_cl_mostCarried _ _
    · first | with_reducible rfl | rfl
  · refine zbd_el h (fun v2 hv h => zU_c hTT hv ?_)
    rw [hTT]
    have hz := zsi h hq
    refine zR2_hp ?_ ?_ hz
    · first | with_reducible rfl | exact hA0_cl_mostCarried _ _
    · first | with_reducible rfl | rfl
set_option maxRecDepth 1000000 in
theorem t2_cl_mostCarried {X : Nat × (Nat → Int32)} {ar fi : Nat → Nat → Int32} {m1 m2 m3 m4 m5 : Nat} {y : Int32} {l3 : Int32} {b63 : Nat → Int32} {Q_cl_putInOrder : Int32 → (Nat → Int32) → (Nat → Int32) → Option ((Nat → Int32))} {Q_cl_worthInTime : Int32 → Int32 → (Nat → Int32) → (Nat → Int32) → Option (Int32)} : zseg X zFT (zEx 8 (P_cl_putInOrder Q_cl_putInOrder) (zEx 9 (P_cl_worthInTime Q_cl_worthInTime) zE0)) zc_7 (fun p => Nat.beq p 2 || Nat.beq p 46) 400 2 [.ref 62, .ref 1, .int y, .int l3] [] ((zua ar 63 b63), fi, (m1, m2, m3, m4, m5)) = (
  bif decide (y ≤ l3) then
   some (.inl (46, [.ref 62, .ref 1, .int y, .int 0, .int 1], [], ((zua ar 63 b63), fi, (m1, m2, m3, m4, m5))))
  else
   zg (Nat.beq 16 16 && (zin (3 * l3) 260)) (
   bif decide ((ar 1) ((3 * l3).toNatClampNeg) < 1) then
    some (.inr (some (.int (-2)), ((zua ar 63 b63), fi, (m1, m2, m3, m4, m5))))
   else
    zg (Nat.beq 16 16 && (zin (3 * l3) 260)) (
    bif decide ((ar 1) ((3 * l3).toNatClampNeg) ≤ 60) then
     zl (Q_cl_putInOrder l3 (ar 1) b63) (fun v1 => zg v1.isSome (
     some (.inl (2, [.ref 62, .ref 1, .int y, .int (l3 + 1)], [], ((zua (zua ar 63 b63) 63 (((zgt v1)))), fi, (m1, m2, m3, m4, m5))))))
    else
     some (.inr (some (.int (-2)), ((zua ar 63 b63), fi, (m1, m2, m3, m4, m5)))))) : Option ((Nat × List Value × List Value × zH2) ⊕ zO2)) := by with_unfolding_all rfl
set_option maxRecDepth 20000 in
theorem k_cl_mostCarried_2 {X : Nat × (Nat → Int32)} {ar fi : Nat → Nat → Int32} {m1 m2 m3 m4 m5 : Nat} {y : Int32} {o : zO2} : ∀ (s : U_cl_mostCarried_2) (q : U_cl_mostCarried_2 ⊕ T_cl_mostCarried), f_cl_mostCarried_2 y (ar 1) s = some q → zq (M_cl_mostCarried_2 X (zEx 8 S_cl_putInOrder (zEx 9 S_cl_worthInTime zE0)) ar fi m1 m2 m3 m4 m5 y o) (fun t => O_cl_mostCarried ar fi m1 m2 m3 m4 m5 t = o) q → M_cl_mostCarried_2 X (zEx 8 S_cl_putInOrder (zEx 9 S_cl_worthInTime zE0)) ar fi m1 m2 m3 m4 m5 y o s := by
  intro s q h hq
  obtain ⟨l3, b63⟩ := s
  have h : b_cl_mostCarried_2 y (ar 1) l3 b63 = some q := h
  unfold b_cl_mostCarried_2 at h
  show zR2 X zFT (zEx 8 S_cl_putInOrder (zEx 9 S_cl_worthInTime zE0)) zc_7 2 [.ref 62, .ref 1, .int y, .int l3] [] ((zua ar 63 b63), fi, (m1, m2, m3, m4, m5)) o
  refine zT_seg t2_cl_mostCarried ?_
  obtain ⟨TT, hTT⟩ : ∃ T, T = zT X zFT (zEx 8 S_cl_putInOrder (zEx 9 S_cl_worthInTime zE0)) zc_7 o := ⟨_, rfl⟩
  rw [← hTT]
  refine zb_el h (fun hb h => zU_t hTT hb ?_) (fun hb h => zU_f hTT hb ?_)
  · rw [hTT]
    refine zbd_el h (fun r hr h => ?_)
    have hz := zsi h hq
    refine zR2_hp ?_ ?_ (zlp_K k_cl_mostCarried_46 hr hz)
    · first | with_reducible rfl | exact hA0_cl_mostCarried _ _
    · first | with_reducible rfl | rfl
  · refine zg_el h (fun hg h => zU_ga hTT hg ?_)
    refine zb_el h (fun hb h => zU_t hTT hb ?_) (fun hb h => zU_f hTT hb ?_)
    · rw [hTT]
      have hz := zsi h hq
      refine (zO_mk ?_ ?_).trans hz
      · first | with_reducible rfl | exact hA0_cl_mostCarried _ _
      · first | with_reducible rfl | rfl
    · refine zg_el h (fun hg h => zU_ga hTT hg ?_)
      refine zb_el h (fun hb h => zU_t hTT hb ?_) (fun hb h => zU_f hTT hb ?_)
      · refine zbd_el h (fun v1 hv h => zU_c hTT hv ?_)
        rw [hTT]
        have hz := zsi h hq
        refine zR2_hp ?_ ?_ hz
        · first | with_reducible rfl | exact hA1_cl_mostCarried _ _ _
        · first | with_reducible rfl | rfl
      · rw [hTT]
        have hz := zsi h hq
        refine (zO_mk ?_ ?_).trans hz
        · first | with_reducible rfl | exact hA0_cl_mostCarried _ _
        · first | with_reducible rfl | rfl
set_option maxRecDepth 1000000 in
theorem t_cl_mostCarried {X : Nat × (Nat → Int32)} {ar fi : Nat → Nat → Int32} {m1 m2 m3 m4 m5 : Nat} {y : Int32} {Q_cl_putInOrder : Int32 → (Nat → Int32) → (Nat → Int32) → Option ((Nat → Int32))} {Q_cl_worthInTime : Int32 → Int32 → (Nat → Int32) → (Nat → Int32) → Option (Int32)} : zseg X zFT (zEx 8 (P_cl_putInOrder Q_cl_putInOrder) (zEx 9 (P_cl_worthInTime Q_cl_worthInTime) zE0)) zc_7 (fun p => Nat.beq p 2 || Nat.beq p 46) 400 0 [.ref 62, .ref 1, .int y] [] (ar, fi, (m1, m2, m3, m4, m5)) = (
  some (.inl (2, [.ref 62, .ref 1, .int y, .int 0], [], (ar, fi, (m1, m2, m3, m4, m5)))) : Option ((Nat × List Value × List Value × zH2) ⊕ zO2)) := by with_unfolding_all rfl
set_option maxRecDepth 20000 in
theorem e_cl_mostCarried {X : Nat × (Nat → Int32)} {ar fi : Nat → Nat → Int32} {m1 m2 m3 m4 m5 : Nat} {y : Int32} {o : zO2} : ∀ (q : T_cl_mostCarried), q_cl_mostCarried y (ar 1) (ar 63) = some q → (fun t => O_cl_mostCarried ar fi m1 m2 m3 m4 m5 t = o) q → zR2 X zFT (zEx 8 S_cl_putInOrder (zEx 9 S_cl_worthInTime zE0)) zc_7 0 [.ref 62, .ref 1, .int y] [] (ar, fi, (m1, m2, m3, m4, m5)) o := by
  intro q h hq
  unfold q_cl_mostCarried at h
  refine zT_seg t_cl_mostCarried ?_
  obtain ⟨TT, hTT⟩ : ∃ T, T = zT X zFT (zEx 8 S_cl_putInOrder (zEx 9 S_cl_worthInTime zE0)) zc_7 o := ⟨_, rfl⟩
  rw [← hTT]
  rw [hTT]
  refine zR2_hp ?_ ?_ (zlp_K k_cl_mostCarried_2 h hq)
  · first | with_reducible rfl | exact hA2_cl_mostCarried _
  · first | with_reducible rfl | rfl
theorem ok_cl_mostCarried (X : Nat × (Nat → Int32)) : zOkS X 7 S_cl_mostCarried 2 := zOkS_new (zOkE_cons (ok_cl_putInOrder X) (by decide) (zOkE_cons (ok_cl_worthInTime X) (by decide) (zOkE_nil X 1))) (by
  intro args g o h
  obtain ⟨ar, fi, m1, m2, m3, m4, m5⟩ := g
  unfold S_cl_mostCarried P_cl_mostCarried at h
  split at h
  · refine zb_el h (fun hI0 k0 => ?_) (fun _ h10 => ?_)
    · try simp only [Bool.and_eq_true] at hI0
      obtain ⟨j0, j1⟩ := hI0
      have e0 := Nat.eq_of_beq_eq_true j0
      subst e0
      have e1 := Nat.eq_of_beq_eq_true j1
      subst e1
      exact zpe_el k0 (fun t ht ho => by obtain ⟨t0, t1⟩ := t; exact e_cl_mostCarried _ ht ho)
    · cases h10
  · cases h)
